set_option maxHeartbeats 4000000 in
set_option maxRecDepth 100000 in
theorem c_X7_doesAll (l : Launch) (D : va_G) (cY : Nat → ClassId) (mx va vk vr vs vt vc vb : Nat) (rl ik th tl ta : Nat) (yr ys yo yf ye : Int32) (tx : Nat → Nat) (f : Nat → Nat) (cnt : Nat) (ps : List p_St) (htl : tl ≤ 60) (htx : ∀ j, tx j < 65536) (hv : p_prog tx tl 15 0 = .inr ps) (hf8 : m_z 8 f) (hf16 : ∀ j, f j < 65536) : m_Mi l yX7_doesAll wsX7_doesAll 7 162 D cY [.ref mx] [(mx, .inr (7, [.ref va, .ref vk, .ref vr, .int (nI rl), .ref vs, .int (nI ik), .int (nI th), .ref vt, .int (nI tl), .int (nI ta), .int yr, .int ys, .int yo, .int yf, .int ye, .ref vc, .ref vb])), (va, .inl (cY 0, 9, .inl (m_nf (m_all f cnt)))), (vt, .inl (cY 0, 60, .inl (m_nf tx)))] (fun (res : Int32) (u : (Nat → Nat) × Nat × Nat × Int32 × Int32 × Int32 × Int32 × Int32) => ((res, u.1, u.2.1) = p_run ps 0 f cnt) ∧ (m_z 8 u.1) ∧ (∀ j, u.1 j < 65536) ∧ (∀ z, res = -1 → ps.getLast? = some z → u.2.2.2.1 = nI z.1)) (fun (u : (Nat → Nat) × Nat × Nat × Int32 × Int32 × Int32 × Int32 × Int32) => [(mx, .inr (7, [.ref va, .ref vk, .ref vr, .int (nI rl), .ref vs, .int (nI ik), .int (nI th), .ref vt, .int (nI tl), .int (nI u.2.2.1), .int u.2.2.2.1, .int u.2.2.2.2.1, .int u.2.2.2.2.2.1, .int u.2.2.2.2.2.2.1, .int u.2.2.2.2.2.2.2, .ref vc, .ref vb])), (va, .inl (cY 0, 9, .inl (m_nf (m_all u.1 u.2.1)))), (vt, .inl (cY 0, 60, .inl (m_nf tx)))]) := by
  refine m_enterI (cc := cX7_doesAll) (maxL := 3) (ret := (some .int)) (by decide +kernel) rfl (Nat.le_of_ble_eq_true rfl) ?_
  intro p e s m below meth c A ls C0 hP hD hl
  obtain ⟨hx, hb, hr, hml, hts, hown, hlocks, hK, hA⟩ := id C0
  generalize hQ : MQ below _ _ s 0 0 A = Q
  have hS : va_S A s.heap s.heap [] := va_S.rf
  have hl : lv_has ls 3 [(0, .ref mx)] := hl
  have hwd0 := hts (.fieldLink RX7 90 "NimberFieldModel" "at" "I") (by decide +kernel)
  have hwd1 := (show ∀ w ∈ u_ws RX7 TX7 17, w ∈ wsX7_doesAll from by decide +kernel)
  refine lv_aload_n hx hb dX7_doesAll_0 rfl (lv_at hl 0 rfl) ?_
  refine lv_iconst (v := nI 0) hx hb dX7_doesAll_1 (by decide) ?_
  refine va_put (D := D) (ci := 7) (v := .int (nI 0)) (ty := .int) (C := RX7) (T := TX7) (N := 17) hx hb hts hwd1 tyX7 tyX7_ok nmX7 hown hK hP hD hS 0 rfl rfl 9 (by decide) hwd0 (fun _ h9 => h9) rfl (by decide +kernel) rfl rfl (Nat.le_of_ble_eq_true rfl) dX7_doesAll_2 (fun H1 locs hP hD hS => ?_)
  have hP : va_P D vwCl [(mx, .inr (7, [.ref va, .ref vk, .ref vr, .int (nI rl), .ref vs, .int (nI ik), .int (nI th), .ref vt, .int (nI tl), .int (nI 0), .int yr, .int ys, .int yo, .int yf, .int ye, .ref vc, .ref vb])), (va, .inl (cY 0, 9, .inl (m_nf (m_all f cnt)))), (vt, .inl (cY 0, 60, .inl (m_nf tx)))] H1 := hP
  have hD : va_D A [(mx, .inr (7, [.ref va, .ref vk, .ref vr, .int (nI rl), .ref vs, .int (nI ik), .int (nI th), .ref vt, .int (nI tl), .int (nI 0), .int yr, .int ys, .int yo, .int yf, .int ye, .ref vc, .ref vb])), (va, .inl (cY 0, 9, .inl (m_nf (m_all f cnt)))), (vt, .inl (cY 0, 60, .inl (m_nf tx)))] := hD
  refine lv_iconst (v := nI 0) hx hb dX7_doesAll_5 (by decide) ?_
  refine lv_istore_n (lv' := [(1, .int (nI 0)), (0, .ref mx)]) hx hb dX7_doesAll_6 rfl hl (by decide) rfl (fun ls hl => ?_)
  refine lv_iconst (v := nI 1) hx hb dX7_doesAll_7 (by decide) ?_
  refine lv_istore_n (lv' := [(2, .int (nI 1)), (1, .int (nI 0)), (0, .ref mx)]) hx hb dX7_doesAll_8 rfl hl (by decide) rfl (fun ls hl => ?_)
  have lp9_2 : ∀ (nn : Nat) (k : Nat) (cu : Nat) (f1 : Nat → Nat) (c1 : Nat) (y1r : Int32) (y1s : Int32) (y1o : Int32) (y1f : Int32) (y1e : Int32) (nf : Nat) (done : List p_St) (H : Heap) (locs : List Loc) (ls : Array Slot), (cu ≤ tl) → (60 ≤ 4 * nf + cu) → (done.length = k) → (4 * k ≤ cu) → (p_cont done (p_prog tx tl nf cu) = .inr ps) → (p_run (ps.drop k) k f1 c1 = p_run ps 0 f cnt) → (m_z 8 f1) → (∀ j, f1 j < 65536) → tl - cu < nn → va_P D vwCl [(mx, .inr (7, [.ref va, .ref vk, .ref vr, .int (nI rl), .ref vs, .int (nI ik), .int (nI th), .ref vt, .int (nI tl), .int (nI cu), .int y1r, .int y1s, .int y1o, .int y1f, .int y1e, .ref vc, .ref vb])), (va, .inl (cY 0, 9, .inl (m_nf (m_all f1 c1)))), (vt, .inl (cY 0, 60, .inl (m_nf tx)))] H → va_D A [(mx, .inr (7, [.ref va, .ref vk, .ref vr, .int (nI rl), .ref vs, .int (nI ik), .int (nI th), .ref vt, .int (nI tl), .int (nI cu), .int y1r, .int y1s, .int y1o, .int y1f, .int y1e, .ref vc, .ref vb])), (va, .inl (cY 0, 9, .inl (m_nf (m_all f1 c1)))), (vt, .inl (cY 0, 60, .inl (m_nf tx)))] → va_S A s.heap H locs → lv_has ls 3 [(0, .ref mx), (1, .int (nI k)), (2, .int (nI 1))] → W p l e { frames := 7, cells := 0, slots := 0, locals := 162 } s m ([.ref mx] : List Value).toArray below meth c H locs 0 0 Q (F0 m 9 ls []) := by
    intro nn
    induction nn with
    | zero => intros; omega
    | succ nn ih9 =>
      intro k cu f1 c1 y1r y1s y1o y1f y1e nf done H locs ls hcu hnf hdl hk4 hpr hrun hf1 hf2 hmz hP hD hS hl
      obtain ⟨x0, w0, hs0, hget, hnp, hnx⟩ := p_valid hpr hnf htl
      refine lv_iload_n hx hb dX7_doesAll_9 rfl (lv_at hl 2 rfl) ?_
      refine lv_if_eq (tgt := 42) hx hb dX7_doesAll_10 (by decide) (fun c10 => ?_) (fun c10 => ?_)
      · exact absurd c10 (by decide)
      · refine lv_aload_n hx hb dX7_doesAll_13 rfl (lv_at hl 0 rfl) ?_
        refine m_callVi (As := []) (rest := []) C0 hl hP hD hS (c_X7_readsStep l D cY mx va vk vr vs vt vc vb rl ik th tl cu y1r y1s y1o y1f y1e tx (by first | assumption | omega | exact nm_lt _ _ | exact np_lt _ _ | decide) (by first | assumption | omega | exact nm_lt _ _ | exact np_lt _ _ | decide) (by first | assumption | omega | exact nm_lt _ _ | exact np_lt _ _ | decide)) (cwV 0 hts gX7_doesAll_X7_readsStep rfl rfl rfl (by decide +kernel) ⟨Nat.le_of_ble_eq_true rfl, Nat.le_of_ble_eq_true rfl⟩) dX7_doesAll_14 [0, 2] rfl rfl 0 rfl rfl rfl rfl (Nat.le_of_ble_eq_true rfl) (Nat.zero_le _) (Nat.zero_le _) (fun _ => rfl) (fun r10 u H3 locs hw hP hD hS => ?_)
        obtain ⟨ta9_4, yr9_5, ys9_6, yo9_7, yf9_8, ye9_9⟩ := u
        try dsimp only at hw
        have hq11 := hw; clear hw
        have hP : va_P D vwCl [(mx, .inr (7, [.ref va, .ref vk, .ref vr, .int (nI rl), .ref vs, .int (nI ik), .int (nI th), .ref vt, .int (nI tl), .int (nI ta9_4), .int yr9_5, .int ys9_6, .int yo9_7, .int yf9_8, .int ye9_9, .ref vc, .ref vb])), (va, .inl (cY 0, 9, .inl (m_nf (m_all f1 c1)))), (vt, .inl (cY 0, 60, .inl (m_nf tx)))] H3 := hP
        have hD : va_D A [(mx, .inr (7, [.ref va, .ref vk, .ref vr, .int (nI rl), .ref vs, .int (nI ik), .int (nI th), .ref vt, .int (nI tl), .int (nI ta9_4), .int yr9_5, .int ys9_6, .int yo9_7, .int yf9_8, .int ye9_9, .ref vc, .ref vb])), (va, .inl (cY 0, 9, .inl (m_nf (m_all f1 c1)))), (vt, .inl (cY 0, 60, .inl (m_nf tx)))] := hD
        rcases hq11 with ⟨rfl, hz1, hz2⟩ | ⟨xx, ya, yb, yd, rfl, hz1, rfl, rfl, rfl, hok, hcs⟩
        · skip
          exact absurd (hs0.symm.trans hz1) (by intro h; cases h)
        · skip
          have hP : va_P D vwCl [(mx, .inr (7, [.ref va, .ref vk, .ref vr, .int (nI rl), .ref vs, .int (nI ik), .int (nI th), .ref vt, .int (nI tl), .int (nI ta9_4), .int (nI xx), .int (nI ya), .int yo9_7, .int (p_ref yb), .int ye9_9, .ref vc, .ref vb])), (va, .inl (cY 0, 9, .inl (m_nf (m_all f1 c1)))), (vt, .inl (cY 0, 60, .inl (m_nf tx)))] H3 := hP
          have hD : va_D A [(mx, .inr (7, [.ref va, .ref vk, .ref vr, .int (nI rl), .ref vs, .int (nI ik), .int (nI th), .ref vt, .int (nI tl), .int (nI ta9_4), .int (nI xx), .int (nI ya), .int yo9_7, .int (p_ref yb), .int ye9_9, .ref vc, .ref vb])), (va, .inl (cY 0, 9, .inl (m_nf (m_all f1 c1)))), (vt, .inl (cY 0, 60, .inl (m_nf tx)))] := hD
          obtain ⟨hxe, hwe⟩ : x0 = (xx, ya, yb, yd) ∧ w0 = ta9_4 := by have h9 := hs0.symm.trans hz1; simpa using h9
          rw [hxe, hdl] at hget
          rw [hxe, hwe] at hnx
          have hadv := p_step_adv hz1
          dsimp only at hadv
          refine lv_if_eq (tgt := 27) hx hb dX7_doesAll_17 (by decide) (fun c17 => ?_) (fun c17 => ?_)
          · exact absurd c17 (by decide)
          · refine lv_aload_n hx hb dX7_doesAll_20 rfl (lv_at hl 0 rfl) ?_
            refine m_callVi (As := []) (rest := []) C0 hl hP hD hS (c_X7_does l D cY mx va vk vr vs vt vc vb rl ik th tl ta9_4 0 0 yo9_7 0 ye9_9 f1 c1 xx ya yb yd (by first | assumption | omega | exact nm_lt _ _ | exact np_lt _ _ | decide) (by first | assumption | omega | exact nm_lt _ _ | exact np_lt _ _ | decide) (by first | assumption | omega | exact nm_lt _ _ | exact np_lt _ _ | decide) (by first | assumption | omega | exact nm_lt _ _ | exact np_lt _ _ | decide)) (cwV 0 hts gX7_doesAll_X7_does rfl rfl rfl (by decide +kernel) ⟨Nat.le_of_ble_eq_true rfl, Nat.le_of_ble_eq_true rfl⟩) dX7_doesAll_21 [0, 1] rfl rfl 0 rfl rfl rfl rfl (Nat.le_of_ble_eq_true rfl) (Nat.zero_le _) (Nat.zero_le _) (fun _ => rfl) (fun r15 u H12 locs hw hP hD hS => ?_)
            obtain ⟨f9_13, cnt9_14⟩ := u
            try dsimp only at hw
            have hq16 := hw; clear hw
            have hP : va_P D vwCl [(mx, .inr (7, [.ref va, .ref vk, .ref vr, .int (nI rl), .ref vs, .int (nI ik), .int (nI th), .ref vt, .int (nI tl), .int (nI ta9_4), .int (nI xx), .int (nI ya), .int yo9_7, .int (p_ref yb), .int ye9_9, .ref vc, .ref vb])), (va, .inl (cY 0, 9, .inl (m_nf (m_all f9_13 cnt9_14)))), (vt, .inl (cY 0, 60, .inl (m_nf tx)))] H12 := hP
            have hD : va_D A [(mx, .inr (7, [.ref va, .ref vk, .ref vr, .int (nI rl), .ref vs, .int (nI ik), .int (nI th), .ref vt, .int (nI tl), .int (nI ta9_4), .int (nI xx), .int (nI ya), .int yo9_7, .int (p_ref yb), .int ye9_9, .ref vc, .ref vb])), (va, .inl (cY 0, 9, .inl (m_nf (m_all f9_13 cnt9_14)))), (vt, .inl (cY 0, 60, .inl (m_nf tx)))] := hD
            rcases hq16 with ⟨rfl, hd1, hd2, hd3⟩ | ⟨rfl, hd1, hd2, hd3⟩
            · skip
              refine lv_if_ne (tgt := 29) hx hb dX7_doesAll_24 (by decide) (fun c24 => ?_) (fun c24 => ?_)
              · exact absurd c24 (by decide)
              · refine lv_iload_n hx hb dX7_doesAll_27 rfl (lv_at hl 1 rfl) ?_
                subst hQ
                exact m_iret C0 hS dX7_doesAll_28 (u := (f9_13, cnt9_14, ta9_4, nI xx, nI ya, yo9_7, p_ref yb, ye9_9)) hP (⟨by rw [← hrun, p_run_trap hget hd1, hd2, hd3], by rw [hd2]; exact hf1, by rw [hd2]; exact hf2, fun z h => absurd h (n_nem1 (by omega))⟩)
            · skip
              refine lv_if_ne (tgt := 29) hx hb dX7_doesAll_24 (by decide) (fun c24 => ?_) (fun c24 => ?_)
              · refine lv_iinc (v := nI (k + 1)) (lv' := [(1, .int (nI (k + 1))), (0, .ref mx), (2, .int (nI 1))]) hx hb dX7_doesAll_29 hl (k := 1) rfl (nI_add _ 1) (by decide) rfl (fun ls hl => ?_)
                refine lv_aload_n hx hb dX7_doesAll_32 rfl (lv_at hl 1 rfl) ?_
                refine lv_bipush (v := nI 59) hx hb dX7_doesAll_33 (by decide) ?_
                refine m_callVi (As := [.int (nI 59)]) (rest := []) C0 hl hP hD hS (c_X7_takesOne l D cY mx va vk vr vs vt vc vb rl ik th tl ta9_4 (nI xx) (nI ya) yo9_7 (p_ref yb) ye9_9 tx 59 (by first | assumption | omega | exact nm_lt _ _ | exact np_lt _ _ | decide) (by first | assumption | omega | exact nm_lt _ _ | exact np_lt _ _ | decide) (by first | assumption | omega | exact nm_lt _ _ | exact np_lt _ _ | decide) (by first | assumption | omega | exact nm_lt _ _ | exact np_lt _ _ | decide) (by first | assumption | omega | exact nm_lt _ _ | exact np_lt _ _ | decide)) (cwV 1 hts gX7_doesAll_X7_takesOne rfl rfl rfl (by decide +kernel) ⟨Nat.le_of_ble_eq_true rfl, Nat.le_of_ble_eq_true rfl⟩) dX7_doesAll_35 [0, 2] rfl rfl 0 rfl rfl rfl rfl (Nat.le_of_ble_eq_true rfl) (Nat.zero_le _) (Nat.zero_le _) (fun _ => rfl) (fun r19 u H17 locs hw hP hD hS => ?_)
                obtain ⟨ta9_18, rfl⟩ : ∃ z, z = u := ⟨_, rfl⟩
                try dsimp only at hw
                have hq20 := hw; clear hw
                have hP : va_P D vwCl [(mx, .inr (7, [.ref va, .ref vk, .ref vr, .int (nI rl), .ref vs, .int (nI ik), .int (nI th), .ref vt, .int (nI tl), .int (nI ta9_18), .int (nI xx), .int (nI ya), .int yo9_7, .int (p_ref yb), .int ye9_9, .ref vc, .ref vb])), (va, .inl (cY 0, 9, .inl (m_nf (m_all f9_13 cnt9_14)))), (vt, .inl (cY 0, 60, .inl (m_nf tx)))] H17 := hP
                have hD : va_D A [(mx, .inr (7, [.ref va, .ref vk, .ref vr, .int (nI rl), .ref vs, .int (nI ik), .int (nI th), .ref vt, .int (nI tl), .int (nI ta9_18), .int (nI xx), .int (nI ya), .int yo9_7, .int (p_ref yb), .int ye9_9, .ref vc, .ref vb])), (va, .inl (cY 0, 9, .inl (m_nf (m_all f9_13 cnt9_14)))), (vt, .inl (cY 0, 60, .inl (m_nf tx)))] := hD
                rcases hq20 with ⟨rfl, hk1, hk3, hk4⟩ | ⟨rfl, hk1, hk3⟩
                · skip
                  rw [hk3] at hP hD
                  have hP : va_P D vwCl [(mx, .inr (7, [.ref va, .ref vk, .ref vr, .int (nI rl), .ref vs, .int (nI ik), .int (nI th), .ref vt, .int (nI tl), .int (nI (ta9_4 + 1)), .int (nI xx), .int (nI ya), .int yo9_7, .int (p_ref yb), .int ye9_9, .ref vc, .ref vb])), (va, .inl (cY 0, 9, .inl (m_nf (m_all f9_13 cnt9_14)))), (vt, .inl (cY 0, 60, .inl (m_nf tx)))] H17 := hP
                  have hD : va_D A [(mx, .inr (7, [.ref va, .ref vk, .ref vr, .int (nI rl), .ref vs, .int (nI ik), .int (nI th), .ref vt, .int (nI tl), .int (nI (ta9_4 + 1)), .int (nI xx), .int (nI ya), .int yo9_7, .int (p_ref yb), .int ye9_9, .ref vc, .ref vb])), (va, .inl (cY 0, 9, .inl (m_nf (m_all f9_13 cnt9_14)))), (vt, .inl (cY 0, 60, .inl (m_nf tx)))] := hD
                  refine lv_istore_n (lv' := [(2, .int (nI 1)), (1, .int (nI (k + 1))), (0, .ref mx)]) hx hb dX7_doesAll_38 rfl hl (by decide) rfl (fun ls hl => ?_)
                  refine lv_goto (tgt := 9) hx hb dX7_doesAll_39 (by decide) ?_
                  exact ih9 (k + 1) (ta9_4 + 1) f9_13 cnt9_14 (nI xx) (nI ya) yo9_7 (p_ref yb) ye9_9 (nf - 1) (done ++ [(xx, ya, yb, yd)]) _ _ ls (by first | assumption | omega) (by first | assumption | omega) (by simp [hdl]) (by first | assumption | omega) ((hnx.resolve_right (fun q => q.1 hk1)).2) ((p_run_on hget hd1).trans hrun) (hd2) (hd3) (by omega) hP hD hS (lv_sub hl [2, 1, 0] rfl)
                · skip
                  rw [hk3] at hP hD
                  have hP : va_P D vwCl [(mx, .inr (7, [.ref va, .ref vk, .ref vr, .int (nI rl), .ref vs, .int (nI ik), .int (nI th), .ref vt, .int (nI tl), .int (nI ta9_4), .int (nI xx), .int (nI ya), .int yo9_7, .int (p_ref yb), .int ye9_9, .ref vc, .ref vb])), (va, .inl (cY 0, 9, .inl (m_nf (m_all f9_13 cnt9_14)))), (vt, .inl (cY 0, 60, .inl (m_nf tx)))] H17 := hP
                  have hD : va_D A [(mx, .inr (7, [.ref va, .ref vk, .ref vr, .int (nI rl), .ref vs, .int (nI ik), .int (nI th), .ref vt, .int (nI tl), .int (nI ta9_4), .int (nI xx), .int (nI ya), .int yo9_7, .int (p_ref yb), .int ye9_9, .ref vc, .ref vb])), (va, .inl (cY 0, 9, .inl (m_nf (m_all f9_13 cnt9_14)))), (vt, .inl (cY 0, 60, .inl (m_nf tx)))] := hD
                  refine lv_istore_n (lv' := [(2, .int (nI 0)), (1, .int (nI (k + 1))), (0, .ref mx)]) hx hb dX7_doesAll_38 rfl hl (by decide) rfl (fun ls hl => ?_)
                  refine lv_goto (tgt := 9) hx hb dX7_doesAll_39 (by decide) ?_
                  refine lv_iload_n hx hb dX7_doesAll_9 rfl (lv_at hl 0 rfl) ?_
                  refine lv_if_eq (tgt := 42) hx hb dX7_doesAll_10 (by decide) (fun c10 => ?_) (fun c10 => ?_)
                  · refine lv_iconst (v := (-1)) hx hb dX7_doesAll_42 (by decide) ?_
                    have hend := (hnx.resolve_left (fun q => hk1 q.1)).2
                    subst hQ
                    exact m_iret C0 hS dX7_doesAll_43 (u := (f9_13, cnt9_14, ta9_4, nI xx, nI ya, yo9_7, (p_ref yb), ye9_9)) hP (⟨by rw [← hrun, ← p_run_on hget hd1, p_run_end (by rw [hend]; simp; omega)], hd2, hd3, fun z _ h => by rw [hend] at h; simp at h; rw [← h]⟩)
                  · exact absurd c10 (by decide)
              · exact absurd c24 (by decide)
  exact lp9_2 _ 0 0 f cnt yr ys yo yf ye 15 ([]) _ _ ls (by first | assumption | omega) (by first | assumption | omega) (rfl) (by first | assumption | omega) ((p_cont_nil _).trans hv) (rfl) (by first | assumption | omega) (by first | assumption | omega) (Nat.lt_succ_self _) hP hD hS (lv_sub hl [2, 1, 0] rfl)
set_option maxHeartbeats 4000000 in
set_option maxRecDepth 100000 in
theorem c_X7_tries (l : Launch) (D : va_G) (cY : Nat → ClassId) (mx va vk vr vs vt vc vb : Nat) (rl ik th tl ta : Nat) (yr ys yo yf ye : Int32) (tx : Nat → Nat) (f : Nat → Nat) (cnt : Nat) (ps : List p_St) (kf : Nat → Nat) (kc : Nat) (htl : tl ≤ 60) (htx : ∀ j, tx j < 65536) (hv : p_prog tx tl 15 0 = .inr ps) (hf8 : m_z 8 f) (hf16 : ∀ j, f j < 65536) : m_Mi l yX7_tries wsX7_tries 8 184 D cY [.ref mx] [(mx, .inr (7, [.ref va, .ref vk, .ref vr, .int (nI rl), .ref vs, .int (nI ik), .int (nI th), .ref vt, .int (nI tl), .int (nI ta), .int yr, .int ys, .int yo, .int yf, .int ye, .ref vc, .ref vb])), (va, .inl (cY 0, 9, .inl (m_nf (m_all f cnt)))), (vk, .inl (cY 0, 9, .inl (m_nf (m_all kf kc)))), (vt, .inl (cY 0, 60, .inl (m_nf tx)))] (fun (res : Int32) (u : Nat × Int32 × Int32 × Int32 × Int32 × Int32) => res = (p_run ps 0 f cnt).1) (fun (u : Nat × Int32 × Int32 × Int32 × Int32 × Int32) => [(mx, .inr (7, [.ref va, .ref vk, .ref vr, .int (nI rl), .ref vs, .int (nI ik), .int (nI th), .ref vt, .int (nI tl), .int (nI u.1), .int u.2.1, .int u.2.2.1, .int u.2.2.2.1, .int u.2.2.2.2.1, .int u.2.2.2.2.2, .ref vc, .ref vb])), (va, .inl (cY 0, 9, .inl (m_nf (m_all f cnt)))), (vk, .inl (cY 0, 9, .inl (m_nf (m_all f cnt)))), (vt, .inl (cY 0, 60, .inl (m_nf tx)))]) := by
  refine m_enterI (cc := cX7_tries) (maxL := 3) (ret := (some .int)) (by decide +kernel) rfl (Nat.le_of_ble_eq_true rfl) ?_
  intro p e s m below meth c A ls C0 hP hD hl
  obtain ⟨hx, hb, hr, hml, hts, hown, hlocks, hK, hA⟩ := id C0
  generalize hQ : MQ below _ _ s 0 0 A = Q
  have hS : va_S A s.heap s.heap [] := va_S.rf
  have hl : lv_has ls 3 [(0, .ref mx)] := hl
  have hwd0 := hts (.fieldLink RX7 7 "NimberFieldModel" "all" "[I") (by decide +kernel)
  have hwd1 := (show ∀ w ∈ u_ws RX7 TX7 17, w ∈ wsX7_tries from by decide +kernel)
  have hwd2 := hts (.fieldLink RX7 13 "NimberFieldModel" "kept" "[I") (by decide +kernel)
  refine lv_iconst (v := nI 0) hx hb dX7_tries_0 (by decide) ?_
  refine lv_istore_n (lv' := [(1, .int (nI 0)), (0, .ref mx)]) hx hb dX7_tries_1 rfl hl (by decide) rfl (fun ls hl => ?_)
  rw [show m_nf (m_all kf kc) = m_nf (m_mix (m_all kf kc) (m_all f cnt) 0) from congrArg m_nf (m_mix0 _ _)] at hP hD
  have hP : va_P D vwCl [(mx, .inr (7, [.ref va, .ref vk, .ref vr, .int (nI rl), .ref vs, .int (nI ik), .int (nI th), .ref vt, .int (nI tl), .int (nI ta), .int yr, .int ys, .int yo, .int yf, .int ye, .ref vc, .ref vb])), (va, .inl (cY 0, 9, .inl (m_nf (m_all f cnt)))), (vk, .inl (cY 0, 9, .inl (m_nf (m_mix (m_all kf kc) (m_all f cnt) 0)))), (vt, .inl (cY 0, 60, .inl (m_nf tx)))] s.heap := hP
  have hD : va_D A [(mx, .inr (7, [.ref va, .ref vk, .ref vr, .int (nI rl), .ref vs, .int (nI ik), .int (nI th), .ref vt, .int (nI tl), .int (nI ta), .int yr, .int ys, .int yo, .int yf, .int ye, .ref vc, .ref vb])), (va, .inl (cY 0, 9, .inl (m_nf (m_all f cnt)))), (vk, .inl (cY 0, 9, .inl (m_nf (m_mix (m_all kf kc) (m_all f cnt) 0)))), (vt, .inl (cY 0, 60, .inl (m_nf tx)))] := hD
  have lp2_1 : ∀ (nn : Nat) (k : Nat) (H : Heap) (locs : List Loc) (ls : Array Slot), (k ≤ 9) → 9 - k < nn → va_P D vwCl [(mx, .inr (7, [.ref va, .ref vk, .ref vr, .int (nI rl), .ref vs, .int (nI ik), .int (nI th), .ref vt, .int (nI tl), .int (nI ta), .int yr, .int ys, .int yo, .int yf, .int ye, .ref vc, .ref vb])), (va, .inl (cY 0, 9, .inl (m_nf (m_all f cnt)))), (vk, .inl (cY 0, 9, .inl (m_nf (m_mix (m_all kf kc) (m_all f cnt) k)))), (vt, .inl (cY 0, 60, .inl (m_nf tx)))] H → va_D A [(mx, .inr (7, [.ref va, .ref vk, .ref vr, .int (nI rl), .ref vs, .int (nI ik), .int (nI th), .ref vt, .int (nI tl), .int (nI ta), .int yr, .int ys, .int yo, .int yf, .int ye, .ref vc, .ref vb])), (va, .inl (cY 0, 9, .inl (m_nf (m_all f cnt)))), (vk, .inl (cY 0, 9, .inl (m_nf (m_mix (m_all kf kc) (m_all f cnt) k)))), (vt, .inl (cY 0, 60, .inl (m_nf tx)))] → va_S A s.heap H locs → lv_has ls 3 [(0, .ref mx), (1, .int (nI k))] → W p l e { frames := 8, cells := 0, slots := 0, locals := 184 } s m ([.ref mx] : List Value).toArray below meth c H locs 0 0 Q (F0 m 2 ls []) := by
    intro nn
    induction nn with
    | zero => intros; omega
    | succ nn ih2 =>
      intro k H locs ls hk hmz hP hD hS hl
      refine lv_iload_n hx hb dX7_tries_2 rfl (lv_at hl 1 rfl) ?_
      refine lv_bipush (v := nI 9) hx hb dX7_tries_3 (by decide) ?_
      refine lv_icmp_ge (tgt := 26) hx hb dX7_tries_5 (by decide) (fun c5 => ?_) (fun c5 => ?_)
      · have c5 : 9 ≤ k := (nI_leI (a := 9) (b := k) (by first | omega | exact Nat.lt_of_le_of_lt Nat.and_le_right (by decide) | exact Nat.lt_trans (nm_lt _ _) (by decide) | exact Nat.lt_trans (np_lt _ _) (by decide) | exact Nat.lt_trans (p_at_lt htx) (by decide)) (by first | omega | exact Nat.lt_of_le_of_lt Nat.and_le_right (by decide) | exact Nat.lt_trans (nm_lt _ _) (by decide) | exact Nat.lt_trans (np_lt _ _) (by decide) | exact Nat.lt_trans (p_at_lt htx) (by decide))).mp c5
        have k9 : k = 9 := by omega
        subst k9
        rw [show m_nf (m_mix (m_all kf kc) (m_all f cnt) 9) = m_nf (m_all f cnt) from congrArg m_nf (m_mixE (m_all_z _ _) (m_all_z _ _))] at hP hD
        have hP : va_P D vwCl [(mx, .inr (7, [.ref va, .ref vk, .ref vr, .int (nI rl), .ref vs, .int (nI ik), .int (nI th), .ref vt, .int (nI tl), .int (nI ta), .int yr, .int ys, .int yo, .int yf, .int ye, .ref vc, .ref vb])), (va, .inl (cY 0, 9, .inl (m_nf (m_all f cnt)))), (vk, .inl (cY 0, 9, .inl (m_nf (m_all f cnt)))), (vt, .inl (cY 0, 60, .inl (m_nf tx)))] H := hP
        have hD : va_D A [(mx, .inr (7, [.ref va, .ref vk, .ref vr, .int (nI rl), .ref vs, .int (nI ik), .int (nI th), .ref vt, .int (nI tl), .int (nI ta), .int yr, .int ys, .int yo, .int yf, .int ye, .ref vc, .ref vb])), (va, .inl (cY 0, 9, .inl (m_nf (m_all f cnt)))), (vk, .inl (cY 0, 9, .inl (m_nf (m_all f cnt)))), (vt, .inl (cY 0, 60, .inl (m_nf tx)))] := hD
        refine lv_aload_n hx hb dX7_tries_26 rfl (lv_at hl 0 rfl) ?_
        refine m_callVi (As := []) (rest := []) C0 hl hP hD hS (c_X7_doesAll l D cY mx va vk vr vs vt vc vb rl ik th tl ta yr ys yo yf ye tx f cnt ps (by first | assumption | omega | exact nm_lt _ _ | exact np_lt _ _ | decide) (by first | assumption | omega | exact nm_lt _ _ | exact np_lt _ _ | decide) (by first | assumption | omega | exact nm_lt _ _ | exact np_lt _ _ | decide) (by first | assumption | omega | exact nm_lt _ _ | exact np_lt _ _ | decide) (by first | assumption | omega | exact nm_lt _ _ | exact np_lt _ _ | decide)) (cwV 0 hts gX7_tries_X7_doesAll rfl rfl rfl (by decide +kernel) ⟨Nat.le_of_ble_eq_true rfl, Nat.le_of_ble_eq_true rfl⟩) dX7_tries_27 [0, 1, 3] rfl rfl 0 rfl rfl rfl rfl (Nat.le_of_ble_eq_true rfl) (Nat.zero_le _) (Nat.zero_le _) (fun _ => rfl) (fun r11 u H2 locs hw hP hD hS => ?_)
        obtain ⟨f9_3, cnt9_4, ta9_5, yr9_6, ys9_7, yo9_8, yf9_9, ye9_10⟩ := u
        try dsimp only at hw
        obtain ⟨hq12, hq13, hq14, hq15⟩ := hw
        have hP : va_P D vwCl [(mx, .inr (7, [.ref va, .ref vk, .ref vr, .int (nI rl), .ref vs, .int (nI ik), .int (nI th), .ref vt, .int (nI tl), .int (nI ta9_5), .int yr9_6, .int ys9_7, .int yo9_8, .int yf9_9, .int ye9_10, .ref vc, .ref vb])), (va, .inl (cY 0, 9, .inl (m_nf (m_all f9_3 cnt9_4)))), (vk, .inl (cY 0, 9, .inl (m_nf (m_all f cnt)))), (vt, .inl (cY 0, 60, .inl (m_nf tx)))] H2 := hP
        have hD : va_D A [(mx, .inr (7, [.ref va, .ref vk, .ref vr, .int (nI rl), .ref vs, .int (nI ik), .int (nI th), .ref vt, .int (nI tl), .int (nI ta9_5), .int yr9_6, .int ys9_7, .int yo9_8, .int yf9_9, .int ye9_10, .ref vc, .ref vb])), (va, .inl (cY 0, 9, .inl (m_nf (m_all f9_3 cnt9_4)))), (vk, .inl (cY 0, 9, .inl (m_nf (m_all f cnt)))), (vt, .inl (cY 0, 60, .inl (m_nf tx)))] := hD
        have hrun := hq12
        refine lv_istore_n (lv' := [(1, .int r11), (0, .ref mx)]) hx hb dX7_tries_30 rfl hl (by decide) rfl (fun ls hl => ?_)
        refine lv_iconst (v := nI 0) hx hb dX7_tries_31 (by decide) ?_
        refine lv_istore_n (lv' := [(2, .int (nI 0)), (1, .int r11), (0, .ref mx)]) hx hb dX7_tries_32 rfl hl (by decide) rfl (fun ls hl => ?_)
        rw [show m_nf (m_all f9_3 cnt9_4) = m_nf (m_mix (m_all f9_3 cnt9_4) (m_all f cnt) 0) from congrArg m_nf (m_mix0 _ _)] at hP hD
        have hP : va_P D vwCl [(mx, .inr (7, [.ref va, .ref vk, .ref vr, .int (nI rl), .ref vs, .int (nI ik), .int (nI th), .ref vt, .int (nI tl), .int (nI ta9_5), .int yr9_6, .int ys9_7, .int yo9_8, .int yf9_9, .int ye9_10, .ref vc, .ref vb])), (va, .inl (cY 0, 9, .inl (m_nf (m_mix (m_all f9_3 cnt9_4) (m_all f cnt) 0)))), (vk, .inl (cY 0, 9, .inl (m_nf (m_all f cnt)))), (vt, .inl (cY 0, 60, .inl (m_nf tx)))] H2 := hP
        have hD : va_D A [(mx, .inr (7, [.ref va, .ref vk, .ref vr, .int (nI rl), .ref vs, .int (nI ik), .int (nI th), .ref vt, .int (nI tl), .int (nI ta9_5), .int yr9_6, .int ys9_7, .int yo9_8, .int yf9_9, .int ye9_10, .ref vc, .ref vb])), (va, .inl (cY 0, 9, .inl (m_nf (m_mix (m_all f9_3 cnt9_4) (m_all f cnt) 0)))), (vk, .inl (cY 0, 9, .inl (m_nf (m_all f cnt)))), (vt, .inl (cY 0, 60, .inl (m_nf tx)))] := hD
        have lp33_16 : ∀ (nn : Nat) (j9 : Nat) (H : Heap) (locs : List Loc) (ls : Array Slot), (j9 ≤ 9) → 9 - j9 < nn → va_P D vwCl [(mx, .inr (7, [.ref va, .ref vk, .ref vr, .int (nI rl), .ref vs, .int (nI ik), .int (nI th), .ref vt, .int (nI tl), .int (nI ta9_5), .int yr9_6, .int ys9_7, .int yo9_8, .int yf9_9, .int ye9_10, .ref vc, .ref vb])), (va, .inl (cY 0, 9, .inl (m_nf (m_mix (m_all f9_3 cnt9_4) (m_all f cnt) j9)))), (vk, .inl (cY 0, 9, .inl (m_nf (m_all f cnt)))), (vt, .inl (cY 0, 60, .inl (m_nf tx)))] H → va_D A [(mx, .inr (7, [.ref va, .ref vk, .ref vr, .int (nI rl), .ref vs, .int (nI ik), .int (nI th), .ref vt, .int (nI tl), .int (nI ta9_5), .int yr9_6, .int ys9_7, .int yo9_8, .int yf9_9, .int ye9_10, .ref vc, .ref vb])), (va, .inl (cY 0, 9, .inl (m_nf (m_mix (m_all f9_3 cnt9_4) (m_all f cnt) j9)))), (vk, .inl (cY 0, 9, .inl (m_nf (m_all f cnt)))), (vt, .inl (cY 0, 60, .inl (m_nf tx)))] → va_S A s.heap H locs → lv_has ls 3 [(0, .ref mx), (2, .int (nI j9)), (1, .int r11)] → W p l e { frames := 8, cells := 0, slots := 0, locals := 184 } s m ([.ref mx] : List Value).toArray below meth c H locs 0 0 Q (F0 m 33 ls []) := by
          intro nn
          induction nn with
          | zero => intros; omega
          | succ nn ih33 =>
            intro j9 H locs ls hj hmz hP hD hS hl
            refine lv_iload_n hx hb dX7_tries_33 rfl (lv_at hl 1 rfl) ?_
            refine lv_bipush (v := nI 9) hx hb dX7_tries_34 (by decide) ?_
            refine lv_icmp_ge (tgt := 57) hx hb dX7_tries_36 (by decide) (fun c36 => ?_) (fun c36 => ?_)
            · have c36 : 9 ≤ j9 := (nI_leI (a := 9) (b := j9) (by first | omega | exact Nat.lt_of_le_of_lt Nat.and_le_right (by decide) | exact Nat.lt_trans (nm_lt _ _) (by decide) | exact Nat.lt_trans (np_lt _ _) (by decide) | exact Nat.lt_trans (p_at_lt htx) (by decide)) (by first | omega | exact Nat.lt_of_le_of_lt Nat.and_le_right (by decide) | exact Nat.lt_trans (nm_lt _ _) (by decide) | exact Nat.lt_trans (np_lt _ _) (by decide) | exact Nat.lt_trans (p_at_lt htx) (by decide))).mp c36
              have j99 : j9 = 9 := by omega
              subst j99
              rw [show m_nf (m_mix (m_all f9_3 cnt9_4) (m_all f cnt) 9) = m_nf (m_all f cnt) from congrArg m_nf (m_mixE (m_all_z _ _) (m_all_z _ _))] at hP hD
              have hP : va_P D vwCl [(mx, .inr (7, [.ref va, .ref vk, .ref vr, .int (nI rl), .ref vs, .int (nI ik), .int (nI th), .ref vt, .int (nI tl), .int (nI ta9_5), .int yr9_6, .int ys9_7, .int yo9_8, .int yf9_9, .int ye9_10, .ref vc, .ref vb])), (va, .inl (cY 0, 9, .inl (m_nf (m_all f cnt)))), (vk, .inl (cY 0, 9, .inl (m_nf (m_all f cnt)))), (vt, .inl (cY 0, 60, .inl (m_nf tx)))] H := hP
              have hD : va_D A [(mx, .inr (7, [.ref va, .ref vk, .ref vr, .int (nI rl), .ref vs, .int (nI ik), .int (nI th), .ref vt, .int (nI tl), .int (nI ta9_5), .int yr9_6, .int ys9_7, .int yo9_8, .int yf9_9, .int ye9_10, .ref vc, .ref vb])), (va, .inl (cY 0, 9, .inl (m_nf (m_all f cnt)))), (vk, .inl (cY 0, 9, .inl (m_nf (m_all f cnt)))), (vt, .inl (cY 0, 60, .inl (m_nf tx)))] := hD
              refine lv_iload_n hx hb dX7_tries_57 rfl (lv_at hl 2 rfl) ?_
              subst hQ
              exact m_iret C0 hS dX7_tries_58 (u := (ta9_5, yr9_6, ys9_7, yo9_8, yf9_9, ye9_10)) hP (by rw [← hrun])
            · have c36 : ¬ (9 ≤ j9) := fun qq9 => c36 ((nI_leI (a := 9) (b := j9) (by first | omega | exact Nat.lt_of_le_of_lt Nat.and_le_right (by decide) | exact Nat.lt_trans (nm_lt _ _) (by decide) | exact Nat.lt_trans (np_lt _ _) (by decide) | exact Nat.lt_trans (p_at_lt htx) (by decide)) (by first | omega | exact Nat.lt_of_le_of_lt Nat.and_le_right (by decide) | exact Nat.lt_trans (nm_lt _ _) (by decide) | exact Nat.lt_trans (np_lt _ _) (by decide) | exact Nat.lt_trans (p_at_lt htx) (by decide))).mpr qq9)
              refine lv_aload_n hx hb dX7_tries_39 rfl (lv_at hl 0 rfl) ?_
              refine va_get (D := D) (ci := 7) (v := .ref va) (C := RX7) (T := TX7) (N := 17) hx hb hts hwd1 hown hK hP 0 rfl rfl 0 (by decide) hwd0 (fun _ h9 => h9) rfl dX7_tries_40 ?_
              refine lv_iload_n hx hb dX7_tries_43 rfl (lv_at hl 1 rfl) ?_
              refine lv_aload_n hx hb dX7_tries_44 rfl (lv_at hl 0 rfl) ?_
              refine va_get (D := D) (ci := 7) (v := .ref vk) (C := RX7) (T := TX7) (N := 17) hx hb hts hwd1 hown hK hP 0 rfl rfl 1 (by decide) hwd2 (fun _ h9 => h9) rfl dX7_tries_45 ?_
              refine lv_iload_n hx hb dX7_tries_48 rfl (lv_at hl 1 rfl) ?_
              refine va_iald hx hb hK hP 2 0 rfl rfl (m_in (n := j9) (by first | assumption | omega) (by decide)) dX7_tries_49 ?_
              refine lv_topi (nm_r (m_ldn (g := m_all f cnt) (n := j9) (by omega)) ?_)
              refine va_iast hx hb hK hP hD hS 1 0 rfl rfl (m_in (n := j9) (by first | assumption | omega) (by decide)) dX7_tries_50 (fun H17 locs hP hD hS => ?_)
              have hP : va_P D vwCl [(mx, .inr (7, [.ref va, .ref vk, .ref vr, .int (nI rl), .ref vs, .int (nI ik), .int (nI th), .ref vt, .int (nI tl), .int (nI ta9_5), .int yr9_6, .int ys9_7, .int yo9_8, .int yf9_9, .int ye9_10, .ref vc, .ref vb])), (va, .inl (cY 0, 9, .inl (upd (m_nf (m_mix (m_all f9_3 cnt9_4) (m_all f cnt) j9)) (nI j9).toNatClampNeg (nI ((m_all f cnt) j9))))), (vk, .inl (cY 0, 9, .inl (m_nf (m_all f cnt)))), (vt, .inl (cY 0, 60, .inl (m_nf tx)))] H17 := hP
              have hD : va_D A [(mx, .inr (7, [.ref va, .ref vk, .ref vr, .int (nI rl), .ref vs, .int (nI ik), .int (nI th), .ref vt, .int (nI tl), .int (nI ta9_5), .int yr9_6, .int ys9_7, .int yo9_8, .int yf9_9, .int ye9_10, .ref vc, .ref vb])), (va, .inl (cY 0, 9, .inl (upd (m_nf (m_mix (m_all f9_3 cnt9_4) (m_all f cnt) j9)) (nI j9).toNatClampNeg (nI ((m_all f cnt) j9))))), (vk, .inl (cY 0, 9, .inl (m_nf (m_all f cnt)))), (vt, .inl (cY 0, 60, .inl (m_nf tx)))] := hD
              rw [m_upd (g := m_mix (m_all f9_3 cnt9_4) (m_all f cnt) j9) (n := j9) (v := (m_all f cnt) j9) (by omega)] at hP hD
              have hP : va_P D vwCl [(mx, .inr (7, [.ref va, .ref vk, .ref vr, .int (nI rl), .ref vs, .int (nI ik), .int (nI th), .ref vt, .int (nI tl), .int (nI ta9_5), .int yr9_6, .int ys9_7, .int yo9_8, .int yf9_9, .int ye9_10, .ref vc, .ref vb])), (va, .inl (cY 0, 9, .inl (m_nf (m_up (m_mix (m_all f9_3 cnt9_4) (m_all f cnt) j9) j9 ((m_all f cnt) j9))))), (vk, .inl (cY 0, 9, .inl (m_nf (m_all f cnt)))), (vt, .inl (cY 0, 60, .inl (m_nf tx)))] H17 := hP
              have hD : va_D A [(mx, .inr (7, [.ref va, .ref vk, .ref vr, .int (nI rl), .ref vs, .int (nI ik), .int (nI th), .ref vt, .int (nI tl), .int (nI ta9_5), .int yr9_6, .int ys9_7, .int yo9_8, .int yf9_9, .int ye9_10, .ref vc, .ref vb])), (va, .inl (cY 0, 9, .inl (m_nf (m_up (m_mix (m_all f9_3 cnt9_4) (m_all f cnt) j9) j9 ((m_all f cnt) j9))))), (vk, .inl (cY 0, 9, .inl (m_nf (m_all f cnt)))), (vt, .inl (cY 0, 60, .inl (m_nf tx)))] := hD
              rw [show m_nf (m_up (m_mix (m_all f9_3 cnt9_4) (m_all f cnt) j9) j9 ((m_all f cnt) j9)) = m_nf (m_mix (m_all f9_3 cnt9_4) (m_all f cnt) (j9 + 1)) from congrArg m_nf (m_mixS _ _ j9)] at hP hD
              have hP : va_P D vwCl [(mx, .inr (7, [.ref va, .ref vk, .ref vr, .int (nI rl), .ref vs, .int (nI ik), .int (nI th), .ref vt, .int (nI tl), .int (nI ta9_5), .int yr9_6, .int ys9_7, .int yo9_8, .int yf9_9, .int ye9_10, .ref vc, .ref vb])), (va, .inl (cY 0, 9, .inl (m_nf (m_mix (m_all f9_3 cnt9_4) (m_all f cnt) (j9 + 1))))), (vk, .inl (cY 0, 9, .inl (m_nf (m_all f cnt)))), (vt, .inl (cY 0, 60, .inl (m_nf tx)))] H17 := hP
              have hD : va_D A [(mx, .inr (7, [.ref va, .ref vk, .ref vr, .int (nI rl), .ref vs, .int (nI ik), .int (nI th), .ref vt, .int (nI tl), .int (nI ta9_5), .int yr9_6, .int ys9_7, .int yo9_8, .int yf9_9, .int ye9_10, .ref vc, .ref vb])), (va, .inl (cY 0, 9, .inl (m_nf (m_mix (m_all f9_3 cnt9_4) (m_all f cnt) (j9 + 1))))), (vk, .inl (cY 0, 9, .inl (m_nf (m_all f cnt)))), (vt, .inl (cY 0, 60, .inl (m_nf tx)))] := hD
              refine lv_iinc (v := nI (j9 + 1)) (lv' := [(2, .int (nI (j9 + 1))), (0, .ref mx), (1, .int r11)]) hx hb dX7_tries_51 hl (k := 1) rfl (nI_add _ 1) (by decide) rfl (fun ls hl => ?_)
              refine lv_goto (tgt := 33) hx hb dX7_tries_54 (by decide) ?_
              exact ih33 (j9 + 1) _ _ ls (by first | assumption | omega) (by omega) hP hD hS (lv_sub hl [1, 0, 2] rfl)
        exact lp33_16 _ 0 _ _ ls (by first | assumption | omega) (Nat.lt_succ_self _) hP hD hS (lv_sub hl [2, 0, 1] rfl)
      · have c5 : ¬ (9 ≤ k) := fun qq9 => c5 ((nI_leI (a := 9) (b := k) (by first | omega | exact Nat.lt_of_le_of_lt Nat.and_le_right (by decide) | exact Nat.lt_trans (nm_lt _ _) (by decide) | exact Nat.lt_trans (np_lt _ _) (by decide) | exact Nat.lt_trans (p_at_lt htx) (by decide)) (by first | omega | exact Nat.lt_of_le_of_lt Nat.and_le_right (by decide) | exact Nat.lt_trans (nm_lt _ _) (by decide) | exact Nat.lt_trans (np_lt _ _) (by decide) | exact Nat.lt_trans (p_at_lt htx) (by decide))).mpr qq9)
        refine lv_aload_n hx hb dX7_tries_8 rfl (lv_at hl 0 rfl) ?_
        refine va_get (D := D) (ci := 7) (v := .ref vk) (C := RX7) (T := TX7) (N := 17) hx hb hts hwd1 hown hK hP 0 rfl rfl 1 (by decide) hwd2 (fun _ h9 => h9) rfl dX7_tries_9 ?_
        refine lv_iload_n hx hb dX7_tries_12 rfl (lv_at hl 1 rfl) ?_
        refine lv_aload_n hx hb dX7_tries_13 rfl (lv_at hl 0 rfl) ?_
        refine va_get (D := D) (ci := 7) (v := .ref va) (C := RX7) (T := TX7) (N := 17) hx hb hts hwd1 hown hK hP 0 rfl rfl 0 (by decide) hwd0 (fun _ h9 => h9) rfl dX7_tries_14 ?_
        refine lv_iload_n hx hb dX7_tries_17 rfl (lv_at hl 1 rfl) ?_
        refine va_iald hx hb hK hP 1 0 rfl rfl (m_in (n := k) (by first | assumption | omega) (by decide)) dX7_tries_18 ?_
        refine lv_topi (nm_r (m_ldn (g := m_all f cnt) (n := k) (by omega)) ?_)
        refine va_iast hx hb hK hP hD hS 2 0 rfl rfl (m_in (n := k) (by first | assumption | omega) (by decide)) dX7_tries_19 (fun H18 locs hP hD hS => ?_)
        have hP : va_P D vwCl [(mx, .inr (7, [.ref va, .ref vk, .ref vr, .int (nI rl), .ref vs, .int (nI ik), .int (nI th), .ref vt, .int (nI tl), .int (nI ta), .int yr, .int ys, .int yo, .int yf, .int ye, .ref vc, .ref vb])), (va, .inl (cY 0, 9, .inl (m_nf (m_all f cnt)))), (vk, .inl (cY 0, 9, .inl (upd (m_nf (m_mix (m_all kf kc) (m_all f cnt) k)) (nI k).toNatClampNeg (nI ((m_all f cnt) k))))), (vt, .inl (cY 0, 60, .inl (m_nf tx)))] H18 := hP
        have hD : va_D A [(mx, .inr (7, [.ref va, .ref vk, .ref vr, .int (nI rl), .ref vs, .int (nI ik), .int (nI th), .ref vt, .int (nI tl), .int (nI ta), .int yr, .int ys, .int yo, .int yf, .int ye, .ref vc, .ref vb])), (va, .inl (cY 0, 9, .inl (m_nf (m_all f cnt)))), (vk, .inl (cY 0, 9, .inl (upd (m_nf (m_mix (m_all kf kc) (m_all f cnt) k)) (nI k).toNatClampNeg (nI ((m_all f cnt) k))))), (vt, .inl (cY 0, 60, .inl (m_nf tx)))] := hD
        rw [m_upd (g := m_mix (m_all kf kc) (m_all f cnt) k) (n := k) (v := (m_all f cnt) k) (by omega)] at hP hD
        have hP : va_P D vwCl [(mx, .inr (7, [.ref va, .ref vk, .ref vr, .int (nI rl), .ref vs, .int (nI ik), .int (nI th), .ref vt, .int (nI tl), .int (nI ta), .int yr, .int ys, .int yo, .int yf, .int ye, .ref vc, .ref vb])), (va, .inl (cY 0, 9, .inl (m_nf (m_all f cnt)))), (vk, .inl (cY 0, 9, .inl (m_nf (m_up (m_mix (m_all kf kc) (m_all f cnt) k) k ((m_all f cnt) k))))), (vt, .inl (cY 0, 60, .inl (m_nf tx)))] H18 := hP
        have hD : va_D A [(mx, .inr (7, [.ref va, .ref vk, .ref vr, .int (nI rl), .ref vs, .int (nI ik), .int (nI th), .ref vt, .int (nI tl), .int (nI ta), .int yr, .int ys, .int yo, .int yf, .int ye, .ref vc, .ref vb])), (va, .inl (cY 0, 9, .inl (m_nf (m_all f cnt)))), (vk, .inl (cY 0, 9, .inl (m_nf (m_up (m_mix (m_all kf kc) (m_all f cnt) k) k ((m_all f cnt) k))))), (vt, .inl (cY 0, 60, .inl (m_nf tx)))] := hD
        rw [show m_nf (m_up (m_mix (m_all kf kc) (m_all f cnt) k) k ((m_all f cnt) k)) = m_nf (m_mix (m_all kf kc) (m_all f cnt) (k + 1)) from congrArg m_nf (m_mixS _ _ k)] at hP hD
        have hP : va_P D vwCl [(mx, .inr (7, [.ref va, .ref vk, .ref vr, .int (nI rl), .ref vs, .int (nI ik), .int (nI th), .ref vt, .int (nI tl), .int (nI ta), .int yr, .int ys, .int yo, .int yf, .int ye, .ref vc, .ref vb])), (va, .inl (cY 0, 9, .inl (m_nf (m_all f cnt)))), (vk, .inl (cY 0, 9, .inl (m_nf (m_mix (m_all kf kc) (m_all f cnt) (k + 1))))), (vt, .inl (cY 0, 60, .inl (m_nf tx)))] H18 := hP
        have hD : va_D A [(mx, .inr (7, [.ref va, .ref vk, .ref vr, .int (nI rl), .ref vs, .int (nI ik), .int (nI th), .ref vt, .int (nI tl), .int (nI ta), .int yr, .int ys, .int yo, .int yf, .int ye, .ref vc, .ref vb])), (va, .inl (cY 0, 9, .inl (m_nf (m_all f cnt)))), (vk, .inl (cY 0, 9, .inl (m_nf (m_mix (m_all kf kc) (m_all f cnt) (k + 1))))), (vt, .inl (cY 0, 60, .inl (m_nf tx)))] := hD
        refine lv_iinc (v := nI (k + 1)) (lv' := [(1, .int (nI (k + 1))), (0, .ref mx)]) hx hb dX7_tries_20 hl (k := 1) rfl (nI_add _ 1) (by decide) rfl (fun ls hl => ?_)
        refine lv_goto (tgt := 2) hx hb dX7_tries_23 (by decide) ?_
        exact ih2 (k + 1) _ _ ls (by first | assumption | omega) (by omega) hP hD hS (lv_sub hl [1, 0] rfl)
  exact lp2_1 _ 0 _ _ ls (by first | assumption | omega) (Nat.lt_succ_self _) hP hD hS (lv_sub hl [1, 0] rfl)
