set_option maxHeartbeats 4000000 in
set_option maxRecDepth 100000 in
theorem c_X7_solve_f1 (l : Launch) (D : va_G) (cY : Nat → ClassId) (mx va vk vr vs vt vc vb : Nat) (rl ik th tl ta : Nat) (yr ys yo yf ye : Int32) (x : Int32) (hn : ¬ m_isN x) : m_Mi l yX7_solve wsX7_solve 2 45 D cY [.ref mx, .int x] [(mx, .inr (7, [.ref va, .ref vk, .ref vr, .int (nI rl), .ref vs, .int (nI ik), .int (nI th), .ref vt, .int (nI tl), .int (nI ta), .int yr, .int ys, .int yo, .int yf, .int ye, .ref vc, .ref vb]))] (fun (res : Int32) (u : Unit) => res = nI 0) (fun (u : Unit) => [(mx, .inr (7, [.ref va, .ref vk, .ref vr, .int (nI rl), .ref vs, .int (nI ik), .int (nI 1), .ref vt, .int (nI tl), .int (nI ta), .int yr, .int ys, .int yo, .int yf, .int ye, .ref vc, .ref vb]))]) := by
  refine m_enterI (cc := cX7_solve) (maxL := 7) (ret := (some .int)) (by decide +kernel) rfl (Nat.le_of_ble_eq_true rfl) ?_
  intro p e s m below meth c A ls C0 hP hD hl
  obtain ⟨hx, hb, hr, hml, hts, hown, hlocks, hK, hA⟩ := id C0
  generalize hQ : MQ below _ _ s 0 0 A = Q
  have hS : va_S A s.heap s.heap [] := va_S.rf
  have hl : lv_has ls 7 [(0, .ref mx), (1, .int x)] := hl
  refine lv_iload_n hx hb dX7_solve_0 rfl (lv_at hl 1 rfl) ?_
  refine m_callSi (As := [.int x]) (rest := []) C0 hl hP hD hS (c_X7_isNimber l D cY x ) (va_cwS 1 hts gX7_solve_X7_isNimber rfl rfl rfl (by decide +kernel) ⟨Nat.le_of_ble_eq_true rfl, Nat.le_of_ble_eq_true rfl⟩) dX7_solve_1 [] rfl rfl rfl (Nat.le_of_ble_eq_true rfl) (Nat.zero_le _) (Nat.zero_le _) (fun _ => rfl) (fun r2 u H1 locs hw hP hD hS => ?_)
  try dsimp only at hw
  obtain rfl := hw
  have hP : va_P D vwCl [(mx, .inr (7, [.ref va, .ref vk, .ref vr, .int (nI rl), .ref vs, .int (nI ik), .int (nI th), .ref vt, .int (nI tl), .int (nI ta), .int yr, .int ys, .int yo, .int yf, .int ye, .ref vc, .ref vb]))] H1 := hP
  have hD : va_D A [(mx, .inr (7, [.ref va, .ref vk, .ref vr, .int (nI rl), .ref vs, .int (nI ik), .int (nI th), .ref vt, .int (nI tl), .int (nI ta), .int yr, .int ys, .int yo, .int yf, .int ye, .ref vc, .ref vb]))] := hD
  refine lv_topi (nm_r (congrArg nI (if_neg (hn))) ?_)
  refine lv_if_ne (tgt := 13) hx hb dX7_solve_4 (by decide) (fun c4 => ?_) (fun c4 => ?_)
  · exact absurd c4 (by decide)
  · refine lv_aload_n hx hb dX7_solve_7 rfl (lv_at hl 0 rfl) ?_
    refine lv_iconst (v := nI 1) hx hb dX7_solve_8 (by decide) ?_
    refine m_callVi (As := [.int (nI 1)]) (rest := []) C0 hl hP hD hS (c_X7_fails l D cY mx va vk vr vs vt vc vb rl ik th tl ta yr ys yo yf ye 1 ) (cwV 1 hts gX7_solve_X7_fails rfl rfl rfl (by decide +kernel) ⟨Nat.le_of_ble_eq_true rfl, Nat.le_of_ble_eq_true rfl⟩) dX7_solve_9 [0] rfl rfl 0 rfl rfl rfl rfl (Nat.le_of_ble_eq_true rfl) (Nat.zero_le _) (Nat.zero_le _) (fun _ => rfl) (fun r4 u H3 locs hw hP hD hS => ?_)
    try dsimp only at hw
    obtain rfl := hw
    have hP : va_P D vwCl [(mx, .inr (7, [.ref va, .ref vk, .ref vr, .int (nI rl), .ref vs, .int (nI ik), .int (nI 1), .ref vt, .int (nI tl), .int (nI ta), .int yr, .int ys, .int yo, .int yf, .int ye, .ref vc, .ref vb]))] H3 := hP
    have hD : va_D A [(mx, .inr (7, [.ref va, .ref vk, .ref vr, .int (nI rl), .ref vs, .int (nI ik), .int (nI 1), .ref vt, .int (nI tl), .int (nI ta), .int yr, .int ys, .int yo, .int yf, .int ye, .ref vc, .ref vb]))] := hD
    subst hQ
    exact m_iret C0 hS dX7_solve_12 (u := ()) hP (by first | trivial | rfl | omega)
set_option maxHeartbeats 4000000 in
set_option maxRecDepth 100000 in
theorem c_X7_solve_ok (l : Launch) (D : va_G) (cY : Nat → ClassId) (mx va vk vr vs vt vc vb : Nat) (rl ik th tl ta : Nat) (yr ys yo yf ye : Int32) (cv bv : Nat → Nat) (x : Nat) (hxx : x < 65536) : m_Mi l yX7_solve wsX7_solve 4 96 D cY [.ref mx, .int (nI x)] [(mx, .inr (7, [.ref va, .ref vk, .ref vr, .int (nI rl), .ref vs, .int (nI ik), .int (nI th), .ref vt, .int (nI tl), .int (nI ta), .int yr, .int ys, .int yo, .int yf, .int ye, .ref vc, .ref vb])), (vc, .inl (cY 0, 16, .inl (m_nf cv))), (vb, .inl (cY 0, 16, .inl (m_nf bv)))] (fun (res : Int32) (u : (Nat → Nat) × (Nat → Nat)) => res = n_sol x) (fun (u : (Nat → Nat) × (Nat → Nat)) => [(mx, .inr (7, [.ref va, .ref vk, .ref vr, .int (nI rl), .ref vs, .int (nI ik), .int (nI 0), .ref vt, .int (nI tl), .int (nI ta), .int yr, .int ys, .int yo, .int yf, .int ye, .ref vc, .ref vb])), (vc, .inl (cY 0, 16, .inl (m_nf u.1))), (vb, .inl (cY 0, 16, .inl (m_nf u.2)))]) := by
  refine m_enterI (cc := cX7_solve) (maxL := 7) (ret := (some .int)) (by decide +kernel) rfl (Nat.le_of_ble_eq_true rfl) ?_
  intro p e s m below meth c A ls C0 hP hD hl
  obtain ⟨hx, hb, hr, hml, hts, hown, hlocks, hK, hA⟩ := id C0
  generalize hQ : MQ below _ _ s 0 0 A = Q
  have hS : va_S A s.heap s.heap [] := va_S.rf
  have hl : lv_has ls 7 [(0, .ref mx), (1, .int (nI x))] := hl
  have hwd0 := hts (.fieldLink RX7 31 "NimberFieldModel" "thrown" "I") (by decide +kernel)
  have hwd1 := (show ∀ w ∈ u_ws RX7 TX7 17, w ∈ wsX7_solve from by decide +kernel)
  have hwd2 := hts (.fieldLink RX7 25 "NimberFieldModel" "comes" "[I") (by decide +kernel)
  have hwd3 := hts (.fieldLink RX7 28 "NimberFieldModel" "bits" "[I") (by decide +kernel)
  refine lv_iload_n hx hb dX7_solve_0 rfl (lv_at hl 1 rfl) ?_
  refine m_callSi (As := [.int (nI x)]) (rest := []) C0 hl hP hD hS (c_X7_isNimber l D cY (nI x) ) (va_cwS 1 hts gX7_solve_X7_isNimber rfl rfl rfl (by decide +kernel) ⟨Nat.le_of_ble_eq_true rfl, Nat.le_of_ble_eq_true rfl⟩) dX7_solve_1 [] rfl rfl rfl (Nat.le_of_ble_eq_true rfl) (Nat.zero_le _) (Nat.zero_le _) (fun _ => rfl) (fun r2 u H1 locs hw hP hD hS => ?_)
  try dsimp only at hw
  obtain rfl := hw
  have hP : va_P D vwCl [(mx, .inr (7, [.ref va, .ref vk, .ref vr, .int (nI rl), .ref vs, .int (nI ik), .int (nI th), .ref vt, .int (nI tl), .int (nI ta), .int yr, .int ys, .int yo, .int yf, .int ye, .ref vc, .ref vb])), (vc, .inl (cY 0, 16, .inl (m_nf cv))), (vb, .inl (cY 0, 16, .inl (m_nf bv)))] H1 := hP
  have hD : va_D A [(mx, .inr (7, [.ref va, .ref vk, .ref vr, .int (nI rl), .ref vs, .int (nI ik), .int (nI th), .ref vt, .int (nI tl), .int (nI ta), .int yr, .int ys, .int yo, .int yf, .int ye, .ref vc, .ref vb])), (vc, .inl (cY 0, 16, .inl (m_nf cv))), (vb, .inl (cY 0, 16, .inl (m_nf bv)))] := hD
  refine lv_topi (nm_r (congrArg nI (if_pos (m_isN_of hxx))) ?_)
  refine lv_if_ne (tgt := 13) hx hb dX7_solve_4 (by decide) (fun c4 => ?_) (fun c4 => ?_)
  · refine lv_aload_n hx hb dX7_solve_13 rfl (lv_at hl 0 rfl) ?_
    refine lv_iconst (v := nI 0) hx hb dX7_solve_14 (by decide) ?_
    refine va_put (D := D) (ci := 7) (v := .int (nI 0)) (ty := .int) (C := RX7) (T := TX7) (N := 17) hx hb hts hwd1 tyX7 tyX7_ok nmX7 hown hK hP hD hS 0 rfl rfl 6 (by decide) hwd0 (fun _ h9 => h9) rfl (by decide +kernel) rfl rfl (Nat.le_of_ble_eq_true rfl) dX7_solve_15 (fun H3 locs hP hD hS => ?_)
    have hP : va_P D vwCl [(mx, .inr (7, [.ref va, .ref vk, .ref vr, .int (nI rl), .ref vs, .int (nI ik), .int (nI 0), .ref vt, .int (nI tl), .int (nI ta), .int yr, .int ys, .int yo, .int yf, .int ye, .ref vc, .ref vb])), (vc, .inl (cY 0, 16, .inl (m_nf cv))), (vb, .inl (cY 0, 16, .inl (m_nf bv)))] H3 := hP
    have hD : va_D A [(mx, .inr (7, [.ref va, .ref vk, .ref vr, .int (nI rl), .ref vs, .int (nI ik), .int (nI 0), .ref vt, .int (nI tl), .int (nI ta), .int yr, .int ys, .int yo, .int yf, .int ye, .ref vc, .ref vb])), (vc, .inl (cY 0, 16, .inl (m_nf cv))), (vb, .inl (cY 0, 16, .inl (m_nf bv)))] := hD
    refine lv_iconst (v := nI 0) hx hb dX7_solve_18 (by decide) ?_
    refine lv_istore_n (lv' := [(2, .int (nI 0)), (0, .ref mx), (1, .int (nI x))]) hx hb dX7_solve_19 rfl hl (by decide) rfl (fun ls hl => ?_)
    have lp20_4 : ∀ (nn : Nat) (k : Nat) (c1 : Nat → Nat) (b1 : Nat → Nat) (H : Heap) (locs : List Loc) (ls : Array Slot), (k ≤ 16) → (∀ j, j < k → c1 j = 0) → (∀ j, j < k → b1 j = 0) → 16 - k < nn → va_P D vwCl [(mx, .inr (7, [.ref va, .ref vk, .ref vr, .int (nI rl), .ref vs, .int (nI ik), .int (nI 0), .ref vt, .int (nI tl), .int (nI ta), .int yr, .int ys, .int yo, .int yf, .int ye, .ref vc, .ref vb])), (vc, .inl (cY 0, 16, .inl (m_nf c1))), (vb, .inl (cY 0, 16, .inl (m_nf b1)))] H → va_D A [(mx, .inr (7, [.ref va, .ref vk, .ref vr, .int (nI rl), .ref vs, .int (nI ik), .int (nI 0), .ref vt, .int (nI tl), .int (nI ta), .int yr, .int ys, .int yo, .int yf, .int ye, .ref vc, .ref vb])), (vc, .inl (cY 0, 16, .inl (m_nf c1))), (vb, .inl (cY 0, 16, .inl (m_nf b1)))] → va_S A s.heap H locs → lv_has ls 7 [(0, .ref mx), (1, .int (nI x)), (2, .int (nI k))] → W p l e { frames := 4, cells := 0, slots := 0, locals := 96 } s m ([.ref mx, .int (nI x)] : List Value).toArray below meth c H locs 0 0 Q (F0 m 20 ls []) := by
      intro nn
      induction nn with
      | zero => intros; omega
      | succ nn ih20 =>
        intro k c1 b1 H locs ls hk hz1 hz2 hmz hP hD hS hl
        refine lv_iload_n hx hb dX7_solve_20 rfl (lv_at hl 2 rfl) ?_
        refine lv_bipush (v := nI 16) hx hb dX7_solve_21 (by decide) ?_
        refine lv_icmp_ge (tgt := 46) hx hb dX7_solve_23 (by decide) (fun c23 => ?_) (fun c23 => ?_)
        · have c23 : 16 ≤ k := (nI_leI (a := 16) (b := k) (by first | omega | exact Nat.lt_of_le_of_lt Nat.and_le_right (by decide) | exact Nat.lt_trans (nm_lt _ _) (by decide) | exact Nat.lt_trans (np_lt _ _) (by decide) | exact Nat.lt_trans (p_at_lt htx) (by decide)) (by first | omega | exact Nat.lt_of_le_of_lt Nat.and_le_right (by decide) | exact Nat.lt_trans (nm_lt _ _) (by decide) | exact Nat.lt_trans (np_lt _ _) (by decide) | exact Nat.lt_trans (p_at_lt htx) (by decide))).mp c23
          refine lv_iconst (v := nI 1) hx hb dX7_solve_46 (by decide) ?_
          refine lv_istore_n (lv' := [(2, .int (nI 1)), (0, .ref mx), (1, .int (nI x))]) hx hb dX7_solve_47 rfl hl (by decide) rfl (fun ls hl => ?_)
          have lp48_5 : ∀ (nn : Nat) (k : Nat) (c2 : Nat → Nat) (b2 : Nat → Nat) (H : Heap) (locs : List Loc) (ls : Array Slot), (1 ≤ k ∧ k ≤ 16) → (s_cm k c2) → (s_bt k b2) → 16 - k < nn → va_P D vwCl [(mx, .inr (7, [.ref va, .ref vk, .ref vr, .int (nI rl), .ref vs, .int (nI ik), .int (nI 0), .ref vt, .int (nI tl), .int (nI ta), .int yr, .int ys, .int yo, .int yf, .int ye, .ref vc, .ref vb])), (vc, .inl (cY 0, 16, .inl (m_nf c2))), (vb, .inl (cY 0, 16, .inl (m_nf b2)))] H → va_D A [(mx, .inr (7, [.ref va, .ref vk, .ref vr, .int (nI rl), .ref vs, .int (nI ik), .int (nI 0), .ref vt, .int (nI tl), .int (nI ta), .int yr, .int ys, .int yo, .int yf, .int ye, .ref vc, .ref vb])), (vc, .inl (cY 0, 16, .inl (m_nf c2))), (vb, .inl (cY 0, 16, .inl (m_nf b2)))] → va_S A s.heap H locs → lv_has ls 7 [(0, .ref mx), (1, .int (nI x)), (2, .int (nI k))] → W p l e { frames := 4, cells := 0, slots := 0, locals := 96 } s m ([.ref mx, .int (nI x)] : List Value).toArray below meth c H locs 0 0 Q (F0 m 48 ls []) := by
            intro nn
            induction nn with
            | zero => intros; omega
            | succ nn ih48 =>
              intro k c2 b2 H locs ls hk hc2 hb2 hmz hP hD hS hl
              refine lv_iload_n hx hb dX7_solve_48 rfl (lv_at hl 2 rfl) ?_
              refine lv_bipush (v := nI 16) hx hb dX7_solve_49 (by decide) ?_
              refine lv_icmp_ge (tgt := 175) hx hb dX7_solve_51 (by decide) (fun c51 => ?_) (fun c51 => ?_)
              · have c51 : 16 ≤ k := (nI_leI (a := 16) (b := k) (by first | omega | exact Nat.lt_of_le_of_lt Nat.and_le_right (by decide) | exact Nat.lt_trans (nm_lt _ _) (by decide) | exact Nat.lt_trans (np_lt _ _) (by decide) | exact Nat.lt_trans (p_at_lt htx) (by decide)) (by first | omega | exact Nat.lt_of_le_of_lt Nat.and_le_right (by decide) | exact Nat.lt_trans (nm_lt _ _) (by decide) | exact Nat.lt_trans (np_lt _ _) (by decide) | exact Nat.lt_trans (p_at_lt htx) (by decide))).mp c51
                refine lv_iload_n hx hb dX7_solve_175 rfl (lv_at hl 1 rfl) ?_
                refine lv_istore_n (lv' := [(2, .int (nI x)), (0, .ref mx), (1, .int (nI x))]) hx hb dX7_solve_176 rfl hl (by decide) rfl (fun ls hl => ?_)
                refine lv_iconst (v := nI 0) hx hb dX7_solve_177 (by decide) ?_
                refine lv_istore_n (lv' := [(3, .int (nI 0)), (2, .int (nI x)), (0, .ref mx), (1, .int (nI x))]) hx hb dX7_solve_178 rfl hl (by decide) rfl (fun ls hl => ?_)
                refine lv_bipush (v := nI 15) hx hb dX7_solve_179 (by decide) ?_
                refine lv_istore (lv' := [(4, .int (nI 15)), (3, .int (nI 0)), (2, .int (nI x)), (0, .ref mx), (1, .int (nI x))]) hx hb dX7_solve_181 hl (by decide) rfl (fun ls hl => ?_)
                have lp183_6 : ∀ (nn : Nat) (lf : Nat) (y : Nat) (z : Int32) (w : Nat) (H : Heap) (locs : List Loc) (ls : Array Slot), (w ≤ 16) → ((w = 0 ∧ z = -1) ∨ ∃ b, w = b + 1 ∧ z = nI b) → (lf < 65536) → (n_ls (min w 15) y lf = n_ls 15 0 x) → w < nn → va_P D vwCl [(mx, .inr (7, [.ref va, .ref vk, .ref vr, .int (nI rl), .ref vs, .int (nI ik), .int (nI 0), .ref vt, .int (nI tl), .int (nI ta), .int yr, .int ys, .int yo, .int yf, .int ye, .ref vc, .ref vb])), (vc, .inl (cY 0, 16, .inl (m_nf c2))), (vb, .inl (cY 0, 16, .inl (m_nf b2)))] H → va_D A [(mx, .inr (7, [.ref va, .ref vk, .ref vr, .int (nI rl), .ref vs, .int (nI ik), .int (nI 0), .ref vt, .int (nI tl), .int (nI ta), .int yr, .int ys, .int yo, .int yf, .int ye, .ref vc, .ref vb])), (vc, .inl (cY 0, 16, .inl (m_nf c2))), (vb, .inl (cY 0, 16, .inl (m_nf b2)))] → va_S A s.heap H locs → lv_has ls 7 [(0, .ref mx), (2, .int (nI lf)), (3, .int (nI y)), (4, .int z)] → W p l e { frames := 4, cells := 0, slots := 0, locals := 96 } s m ([.ref mx, .int (nI x)] : List Value).toArray below meth c H locs 0 0 Q (F0 m 183 ls []) := by
                  intro nn
                  induction nn with
                  | zero => intros; omega
                  | succ nn ih183 =>
                    intro lf y z w H locs ls hw16 hzw hlf hv hmz hP hD hS hl
                    refine lv_iload hx hb dX7_solve_183 (lv_at hl 3 rfl) ?_
                    rcases hzw with ⟨hw0, rfl⟩ | ⟨b, hwb, rfl⟩
                    · skip
                      refine lv_if_lt (tgt := 259) hx hb dX7_solve_185 (by decide) (fun c185 => ?_) (fun c185 => ?_)
                      · have c185 := c185
                        refine lv_iload_n hx hb dX7_solve_259 rfl (lv_at hl 1 rfl) ?_
                        refine lv_if_ne (tgt := 267) hx hb dX7_solve_260 (by decide) (fun c260 => ?_) (fun c260 => ?_)
                        · have c260 : ¬ (lf = 0) := fun qq9 => c260 ((nI_eq (a := lf) (b := 0) (by first | omega | exact Nat.lt_of_le_of_lt Nat.and_le_right (by decide) | exact Nat.lt_trans (nm_lt _ _) (by decide) | exact Nat.lt_trans (np_lt _ _) (by decide) | exact Nat.lt_trans (p_at_lt htx) (by decide)) (by first | omega | exact Nat.lt_of_le_of_lt Nat.and_le_right (by decide) | exact Nat.lt_trans (nm_lt _ _) (by decide) | exact Nat.lt_trans (np_lt _ _) (by decide) | exact Nat.lt_trans (p_at_lt htx) (by decide))).mpr qq9)
                          refine lv_iconst (v := (-1)) hx hb dX7_solve_267 (by decide) ?_
                          subst hw0
                          rw [show min 0 15 = 0 from rfl] at hv
                          subst hQ
                          exact m_iret C0 hS dX7_solve_268 (u := (c2, b2)) hP (by rw [n_sol, ← hv]; first | exact (if_pos c260).symm | exact (if_neg c260).symm)
                        · have c260 : lf = 0 := (nI_eq (a := lf) (b := 0) (by first | omega | exact Nat.lt_of_le_of_lt Nat.and_le_right (by decide) | exact Nat.lt_trans (nm_lt _ _) (by decide) | exact Nat.lt_trans (np_lt _ _) (by decide) | exact Nat.lt_trans (p_at_lt htx) (by decide)) (by first | omega | exact Nat.lt_of_le_of_lt Nat.and_le_right (by decide) | exact Nat.lt_trans (nm_lt _ _) (by decide) | exact Nat.lt_trans (np_lt _ _) (by decide) | exact Nat.lt_trans (p_at_lt htx) (by decide))).mp c260
                          refine lv_iload_n hx hb dX7_solve_263 rfl (lv_at hl 2 rfl) ?_
                          refine lv_goto (tgt := 268) hx hb dX7_solve_264 (by decide) ?_
                          subst hw0
                          rw [show min 0 15 = 0 from rfl] at hv
                          subst hQ
                          exact m_iret C0 hS dX7_solve_268 (u := (c2, b2)) hP (by rw [n_sol, ← hv]; first | exact (if_pos c260).symm | exact (if_neg c260).symm)
                      · have c185 := c185
                        exfalso; exact c185 (by decide)
                    · skip
                      refine lv_if_lt (tgt := 259) hx hb dX7_solve_185 (by decide) (fun c185 => ?_) (fun c185 => ?_)
                      · have c185 : b < 0 := (nI_ltI (a := b) (b := 0) (by first | omega | exact Nat.lt_of_le_of_lt Nat.and_le_right (by decide) | exact Nat.lt_trans (nm_lt _ _) (by decide) | exact Nat.lt_trans (np_lt _ _) (by decide) | exact Nat.lt_trans (p_at_lt htx) (by decide)) (by first | omega | exact Nat.lt_of_le_of_lt Nat.and_le_right (by decide) | exact Nat.lt_trans (nm_lt _ _) (by decide) | exact Nat.lt_trans (np_lt _ _) (by decide) | exact Nat.lt_trans (p_at_lt htx) (by decide))).mp c185
                        exfalso; omega
                      · have c185 : ¬ (b < 0) := fun qq9 => c185 ((nI_ltI (a := b) (b := 0) (by first | omega | exact Nat.lt_of_le_of_lt Nat.and_le_right (by decide) | exact Nat.lt_trans (nm_lt _ _) (by decide) | exact Nat.lt_trans (np_lt _ _) (by decide) | exact Nat.lt_trans (p_at_lt htx) (by decide)) (by first | omega | exact Nat.lt_of_le_of_lt Nat.and_le_right (by decide) | exact Nat.lt_trans (nm_lt _ _) (by decide) | exact Nat.lt_trans (np_lt _ _) (by decide) | exact Nat.lt_trans (p_at_lt htx) (by decide))).mpr qq9)
                        subst hwb
                        have hcb := hc2 b (by omega)
                        have hbb := hb2 b (by omega)
                        refine lv_iload_n hx hb dX7_solve_188 rfl (lv_at hl 1 rfl) ?_
                        rcases (show 15 ≤ b ∨ b < 15 by omega) with hb15 | hb15
                        · skip
                          have hcz : c2 b = 0 := by rw [hcb, if_neg (by omega)]
                          refine lv_iload hx hb dX7_solve_189 (lv_at hl 3 rfl) ?_
                          refine lv_ishr hx hb dX7_solve_191 ?_
                          refine lv_topi (nm_r (m_shr _ _ (by omega) (by omega)) ?_)
                          refine lv_iconst (v := nI 1) hx hb dX7_solve_192 (by decide) ?_
                          refine lv_iand hx hb dX7_solve_193 ?_
                          refine lv_topi (nm_r (nx_and _ _) ?_)
                          refine lv_iconst (v := nI 1) hx hb dX7_solve_194 (by decide) ?_
                          refine lv_icmp_ne (tgt := 212) hx hb dX7_solve_195 (by decide) (fun c195 => ?_) (fun c195 => ?_)
                          · have c195 : ¬ (((lf >>> b) &&& 1) = 1) := fun qq9 => c195 ((nI_eq (a := ((lf >>> b) &&& 1)) (b := 1) (by first | omega | exact Nat.lt_of_le_of_lt Nat.and_le_right (by decide) | exact Nat.lt_trans (nm_lt _ _) (by decide) | exact Nat.lt_trans (np_lt _ _) (by decide) | exact Nat.lt_trans (p_at_lt htx) (by decide)) (by first | omega | exact Nat.lt_of_le_of_lt Nat.and_le_right (by decide) | exact Nat.lt_trans (nm_lt _ _) (by decide) | exact Nat.lt_trans (np_lt _ _) (by decide) | exact Nat.lt_trans (p_at_lt htx) (by decide))).mpr qq9)
                            refine lv_iconst (v := nI 0) hx hb dX7_solve_212 (by decide) ?_
                            refine lv_istore (lv' := [(5, .int (nI 0)), (0, .ref mx), (2, .int (nI lf)), (3, .int (nI y)), (4, .int (nI b))]) hx hb dX7_solve_213 hl (by decide) rfl (fun ls hl => ?_)
                            refine lv_iload_n hx hb dX7_solve_215 rfl (lv_at hl 2 rfl) ?_
                            refine lv_iload hx hb dX7_solve_216 (lv_at hl 0 rfl) ?_
                            refine lv_if_eq (tgt := 231) hx hb dX7_solve_218 (by decide) (fun c218 => ?_) (fun c218 => ?_)
                            · refine lv_iconst (v := nI 0) hx hb dX7_solve_231 (by decide) ?_
                              refine lv_ixor hx hb dX7_solve_232 ?_
                              refine lv_topi (nm_r (nx_xor _ _) ?_)
                              refine lv_istore_n (lv' := [(2, .int (nI (lf ^^^ 0))), (5, .int (nI 0)), (0, .ref mx), (3, .int (nI y)), (4, .int (nI b))]) hx hb dX7_solve_233 rfl hl (by decide) rfl (fun ls hl => ?_)
                              refine lv_iload_n hx hb dX7_solve_234 rfl (lv_at hl 3 rfl) ?_
                              refine lv_iload hx hb dX7_solve_235 (lv_at hl 1 rfl) ?_
                              refine lv_if_eq (tgt := 250) hx hb dX7_solve_237 (by decide) (fun c237 => ?_) (fun c237 => ?_)
                              · refine lv_iconst (v := nI 0) hx hb dX7_solve_250 (by decide) ?_
                                refine lv_ixor hx hb dX7_solve_251 ?_
                                refine lv_topi (nm_r (nx_xor _ _) ?_)
                                refine lv_istore_n (lv' := [(3, .int (nI (y ^^^ 0))), (2, .int (nI (lf ^^^ 0))), (5, .int (nI 0)), (0, .ref mx), (4, .int (nI b))]) hx hb dX7_solve_252 rfl hl (by decide) rfl (fun ls hl => ?_)
                                refine lv_iinc (v := nI b + (-1)) (lv' := [(4, .int (nI b + (-1))), (3, .int (nI (y ^^^ 0))), (2, .int (nI (lf ^^^ 0))), (5, .int (nI 0)), (0, .ref mx)]) hx hb dX7_solve_253 hl (k := 4) rfl (rfl) (by decide) rfl (fun ls hl => ?_)
                                refine lv_goto (tgt := 183) hx hb dX7_solve_256 (by decide) ?_
                                exact ih183 (lf ^^^ 0) (y ^^^ 0) (nI b + (-1)) b _ _ ls (by omega) (s_down b) (by first | (rw [Nat.xor_zero]; exact hlf) | exact n_x16 hlf (by rw [hcb, if_pos (by omega)]; exact s_phi_lt (by omega))) (by rw [show min b 15 = b by omega, ← hv]; first | (rw [Nat.xor_zero, Nat.xor_zero, show min (b + 1) 15 = b by omega]) | (rw [Nat.xor_zero, Nat.xor_zero, show min (b + 1) 15 = b + 1 by omega]; exact n_ls_f (b := b + 1) (by omega) (fun q => c195 ((n_tb lf b).mpr q))) | (rw [hcb, hbb, if_pos (by omega), if_pos (by omega), show min (b + 1) 15 = b + 1 by omega]; exact n_ls_t (b := b + 1) (by omega) ((n_tb lf b).mp c195))) (by omega) hP hD hS (lv_sub hl [4, 2, 1, 0] rfl)
                              · exact absurd c237 (by decide)
                            · exact absurd c218 (by decide)
                          · have c195 : ((lf >>> b) &&& 1) = 1 := (nI_eq (a := ((lf >>> b) &&& 1)) (b := 1) (by first | omega | exact Nat.lt_of_le_of_lt Nat.and_le_right (by decide) | exact Nat.lt_trans (nm_lt _ _) (by decide) | exact Nat.lt_trans (np_lt _ _) (by decide) | exact Nat.lt_trans (p_at_lt htx) (by decide)) (by first | omega | exact Nat.lt_of_le_of_lt Nat.and_le_right (by decide) | exact Nat.lt_trans (nm_lt _ _) (by decide) | exact Nat.lt_trans (np_lt _ _) (by decide) | exact Nat.lt_trans (p_at_lt htx) (by decide))).mp c195
                            refine lv_aload_n hx hb dX7_solve_198 rfl (lv_at hl 0 rfl) ?_
                            refine va_get (D := D) (ci := 7) (v := .ref vc) (C := RX7) (T := TX7) (N := 17) hx hb hts hwd1 hown hK hP 0 rfl rfl 15 (by decide) hwd2 (fun _ h9 => h9) rfl dX7_solve_199 ?_
                            refine lv_iload hx hb dX7_solve_202 (lv_at hl 3 rfl) ?_
                            refine va_iald hx hb hK hP 1 0 rfl rfl (m_in (n := b) (by first | assumption | omega) (by decide)) dX7_solve_204 ?_
                            refine lv_topi (nm_r (m_ldn (g := c2) (n := b) (by omega)) ?_)
                            refine lv_if_eq (tgt := 212) hx hb dX7_solve_205 (by decide) (fun c205 => ?_) (fun c205 => ?_)
                            · have c205 : (c2 b) = 0 := (nI_eq (a := (c2 b)) (b := 0) (by first | omega | exact Nat.lt_of_le_of_lt Nat.and_le_right (by decide) | exact Nat.lt_trans (nm_lt _ _) (by decide) | exact Nat.lt_trans (np_lt _ _) (by decide) | exact Nat.lt_trans (p_at_lt htx) (by decide)) (by first | omega | exact Nat.lt_of_le_of_lt Nat.and_le_right (by decide) | exact Nat.lt_trans (nm_lt _ _) (by decide) | exact Nat.lt_trans (np_lt _ _) (by decide) | exact Nat.lt_trans (p_at_lt htx) (by decide))).mp c205
                              refine lv_iconst (v := nI 0) hx hb dX7_solve_212 (by decide) ?_
                              refine lv_istore (lv' := [(5, .int (nI 0)), (0, .ref mx), (2, .int (nI lf)), (3, .int (nI y)), (4, .int (nI b))]) hx hb dX7_solve_213 hl (by decide) rfl (fun ls hl => ?_)
                              refine lv_iload_n hx hb dX7_solve_215 rfl (lv_at hl 2 rfl) ?_
                              refine lv_iload hx hb dX7_solve_216 (lv_at hl 0 rfl) ?_
                              refine lv_if_eq (tgt := 231) hx hb dX7_solve_218 (by decide) (fun c218 => ?_) (fun c218 => ?_)
                              · refine lv_iconst (v := nI 0) hx hb dX7_solve_231 (by decide) ?_
                                refine lv_ixor hx hb dX7_solve_232 ?_
                                refine lv_topi (nm_r (nx_xor _ _) ?_)
                                refine lv_istore_n (lv' := [(2, .int (nI (lf ^^^ 0))), (5, .int (nI 0)), (0, .ref mx), (3, .int (nI y)), (4, .int (nI b))]) hx hb dX7_solve_233 rfl hl (by decide) rfl (fun ls hl => ?_)
                                refine lv_iload_n hx hb dX7_solve_234 rfl (lv_at hl 3 rfl) ?_
                                refine lv_iload hx hb dX7_solve_235 (lv_at hl 1 rfl) ?_
                                refine lv_if_eq (tgt := 250) hx hb dX7_solve_237 (by decide) (fun c237 => ?_) (fun c237 => ?_)
                                · refine lv_iconst (v := nI 0) hx hb dX7_solve_250 (by decide) ?_
                                  refine lv_ixor hx hb dX7_solve_251 ?_
                                  refine lv_topi (nm_r (nx_xor _ _) ?_)
                                  refine lv_istore_n (lv' := [(3, .int (nI (y ^^^ 0))), (2, .int (nI (lf ^^^ 0))), (5, .int (nI 0)), (0, .ref mx), (4, .int (nI b))]) hx hb dX7_solve_252 rfl hl (by decide) rfl (fun ls hl => ?_)
                                  refine lv_iinc (v := nI b + (-1)) (lv' := [(4, .int (nI b + (-1))), (3, .int (nI (y ^^^ 0))), (2, .int (nI (lf ^^^ 0))), (5, .int (nI 0)), (0, .ref mx)]) hx hb dX7_solve_253 hl (k := 4) rfl (rfl) (by decide) rfl (fun ls hl => ?_)
                                  refine lv_goto (tgt := 183) hx hb dX7_solve_256 (by decide) ?_
                                  exact ih183 (lf ^^^ 0) (y ^^^ 0) (nI b + (-1)) b _ _ ls (by omega) (s_down b) (by first | (rw [Nat.xor_zero]; exact hlf) | exact n_x16 hlf (by rw [hcb, if_pos (by omega)]; exact s_phi_lt (by omega))) (by rw [show min b 15 = b by omega, ← hv]; first | (rw [Nat.xor_zero, Nat.xor_zero, show min (b + 1) 15 = b by omega]) | (rw [Nat.xor_zero, Nat.xor_zero, show min (b + 1) 15 = b + 1 by omega]; exact n_ls_f (b := b + 1) (by omega) (fun q => c195 ((n_tb lf b).mpr q))) | (rw [hcb, hbb, if_pos (by omega), if_pos (by omega), show min (b + 1) 15 = b + 1 by omega]; exact n_ls_t (b := b + 1) (by omega) ((n_tb lf b).mp c195))) (by omega) hP hD hS (lv_sub hl [4, 2, 1, 0] rfl)
                                · exact absurd c237 (by decide)
                              · exact absurd c218 (by decide)
                            · have c205 : ¬ ((c2 b) = 0) := fun qq9 => c205 ((nI_eq (a := (c2 b)) (b := 0) (by first | omega | exact Nat.lt_of_le_of_lt Nat.and_le_right (by decide) | exact Nat.lt_trans (nm_lt _ _) (by decide) | exact Nat.lt_trans (np_lt _ _) (by decide) | exact Nat.lt_trans (p_at_lt htx) (by decide)) (by first | omega | exact Nat.lt_of_le_of_lt Nat.and_le_right (by decide) | exact Nat.lt_trans (nm_lt _ _) (by decide) | exact Nat.lt_trans (np_lt _ _) (by decide) | exact Nat.lt_trans (p_at_lt htx) (by decide))).mpr qq9)
                              exfalso; omega
                        · skip
                          have hcz : ¬ c2 b = 0 := by rw [hcb, if_pos (by omega)]; exact (s_phi_is (k := b + 1) (by omega) (by omega)).2.2
                          have hcl : c2 b < 65536 := by rw [hcb, if_pos (by omega)]; exact s_phi_lt (by omega)
                          refine lv_iload hx hb dX7_solve_189 (lv_at hl 3 rfl) ?_
                          refine lv_ishr hx hb dX7_solve_191 ?_
                          refine lv_topi (nm_r (m_shr _ _ (by omega) (by omega)) ?_)
                          refine lv_iconst (v := nI 1) hx hb dX7_solve_192 (by decide) ?_
                          refine lv_iand hx hb dX7_solve_193 ?_
                          refine lv_topi (nm_r (nx_and _ _) ?_)
                          refine lv_iconst (v := nI 1) hx hb dX7_solve_194 (by decide) ?_
                          refine lv_icmp_ne (tgt := 212) hx hb dX7_solve_195 (by decide) (fun c195 => ?_) (fun c195 => ?_)
                          · have c195 : ¬ (((lf >>> b) &&& 1) = 1) := fun qq9 => c195 ((nI_eq (a := ((lf >>> b) &&& 1)) (b := 1) (by first | omega | exact Nat.lt_of_le_of_lt Nat.and_le_right (by decide) | exact Nat.lt_trans (nm_lt _ _) (by decide) | exact Nat.lt_trans (np_lt _ _) (by decide) | exact Nat.lt_trans (p_at_lt htx) (by decide)) (by first | omega | exact Nat.lt_of_le_of_lt Nat.and_le_right (by decide) | exact Nat.lt_trans (nm_lt _ _) (by decide) | exact Nat.lt_trans (np_lt _ _) (by decide) | exact Nat.lt_trans (p_at_lt htx) (by decide))).mpr qq9)
                            refine lv_iconst (v := nI 0) hx hb dX7_solve_212 (by decide) ?_
                            refine lv_istore (lv' := [(5, .int (nI 0)), (0, .ref mx), (2, .int (nI lf)), (3, .int (nI y)), (4, .int (nI b))]) hx hb dX7_solve_213 hl (by decide) rfl (fun ls hl => ?_)
                            refine lv_iload_n hx hb dX7_solve_215 rfl (lv_at hl 2 rfl) ?_
                            refine lv_iload hx hb dX7_solve_216 (lv_at hl 0 rfl) ?_
                            refine lv_if_eq (tgt := 231) hx hb dX7_solve_218 (by decide) (fun c218 => ?_) (fun c218 => ?_)
                            · refine lv_iconst (v := nI 0) hx hb dX7_solve_231 (by decide) ?_
                              refine lv_ixor hx hb dX7_solve_232 ?_
                              refine lv_topi (nm_r (nx_xor _ _) ?_)
                              refine lv_istore_n (lv' := [(2, .int (nI (lf ^^^ 0))), (5, .int (nI 0)), (0, .ref mx), (3, .int (nI y)), (4, .int (nI b))]) hx hb dX7_solve_233 rfl hl (by decide) rfl (fun ls hl => ?_)
                              refine lv_iload_n hx hb dX7_solve_234 rfl (lv_at hl 3 rfl) ?_
                              refine lv_iload hx hb dX7_solve_235 (lv_at hl 1 rfl) ?_
                              refine lv_if_eq (tgt := 250) hx hb dX7_solve_237 (by decide) (fun c237 => ?_) (fun c237 => ?_)
                              · refine lv_iconst (v := nI 0) hx hb dX7_solve_250 (by decide) ?_
                                refine lv_ixor hx hb dX7_solve_251 ?_
                                refine lv_topi (nm_r (nx_xor _ _) ?_)
                                refine lv_istore_n (lv' := [(3, .int (nI (y ^^^ 0))), (2, .int (nI (lf ^^^ 0))), (5, .int (nI 0)), (0, .ref mx), (4, .int (nI b))]) hx hb dX7_solve_252 rfl hl (by decide) rfl (fun ls hl => ?_)
                                refine lv_iinc (v := nI b + (-1)) (lv' := [(4, .int (nI b + (-1))), (3, .int (nI (y ^^^ 0))), (2, .int (nI (lf ^^^ 0))), (5, .int (nI 0)), (0, .ref mx)]) hx hb dX7_solve_253 hl (k := 4) rfl (rfl) (by decide) rfl (fun ls hl => ?_)
                                refine lv_goto (tgt := 183) hx hb dX7_solve_256 (by decide) ?_
                                exact ih183 (lf ^^^ 0) (y ^^^ 0) (nI b + (-1)) b _ _ ls (by omega) (s_down b) (by first | (rw [Nat.xor_zero]; exact hlf) | exact n_x16 hlf (by rw [hcb, if_pos (by omega)]; exact s_phi_lt (by omega))) (by rw [show min b 15 = b by omega, ← hv]; first | (rw [Nat.xor_zero, Nat.xor_zero, show min (b + 1) 15 = b by omega]) | (rw [Nat.xor_zero, Nat.xor_zero, show min (b + 1) 15 = b + 1 by omega]; exact n_ls_f (b := b + 1) (by omega) (fun q => c195 ((n_tb lf b).mpr q))) | (rw [hcb, hbb, if_pos (by omega), if_pos (by omega), show min (b + 1) 15 = b + 1 by omega]; exact n_ls_t (b := b + 1) (by omega) ((n_tb lf b).mp c195))) (by omega) hP hD hS (lv_sub hl [4, 2, 1, 0] rfl)
                              · exact absurd c237 (by decide)
                            · exact absurd c218 (by decide)
                          · have c195 : ((lf >>> b) &&& 1) = 1 := (nI_eq (a := ((lf >>> b) &&& 1)) (b := 1) (by first | omega | exact Nat.lt_of_le_of_lt Nat.and_le_right (by decide) | exact Nat.lt_trans (nm_lt _ _) (by decide) | exact Nat.lt_trans (np_lt _ _) (by decide) | exact Nat.lt_trans (p_at_lt htx) (by decide)) (by first | omega | exact Nat.lt_of_le_of_lt Nat.and_le_right (by decide) | exact Nat.lt_trans (nm_lt _ _) (by decide) | exact Nat.lt_trans (np_lt _ _) (by decide) | exact Nat.lt_trans (p_at_lt htx) (by decide))).mp c195
                            refine lv_aload_n hx hb dX7_solve_198 rfl (lv_at hl 0 rfl) ?_
                            refine va_get (D := D) (ci := 7) (v := .ref vc) (C := RX7) (T := TX7) (N := 17) hx hb hts hwd1 hown hK hP 0 rfl rfl 15 (by decide) hwd2 (fun _ h9 => h9) rfl dX7_solve_199 ?_
                            refine lv_iload hx hb dX7_solve_202 (lv_at hl 3 rfl) ?_
                            refine va_iald hx hb hK hP 1 0 rfl rfl (m_in (n := b) (by first | assumption | omega) (by decide)) dX7_solve_204 ?_
                            refine lv_topi (nm_r (m_ldn (g := c2) (n := b) (by omega)) ?_)
                            refine lv_if_eq (tgt := 212) hx hb dX7_solve_205 (by decide) (fun c205 => ?_) (fun c205 => ?_)
                            · have c205 : (c2 b) = 0 := (nI_eq (a := (c2 b)) (b := 0) (by first | omega | exact Nat.lt_of_le_of_lt Nat.and_le_right (by decide) | exact Nat.lt_trans (nm_lt _ _) (by decide) | exact Nat.lt_trans (np_lt _ _) (by decide) | exact Nat.lt_trans (p_at_lt htx) (by decide)) (by first | omega | exact Nat.lt_of_le_of_lt Nat.and_le_right (by decide) | exact Nat.lt_trans (nm_lt _ _) (by decide) | exact Nat.lt_trans (np_lt _ _) (by decide) | exact Nat.lt_trans (p_at_lt htx) (by decide))).mp c205
                              exfalso; omega
                            · have c205 : ¬ ((c2 b) = 0) := fun qq9 => c205 ((nI_eq (a := (c2 b)) (b := 0) (by first | omega | exact Nat.lt_of_le_of_lt Nat.and_le_right (by decide) | exact Nat.lt_trans (nm_lt _ _) (by decide) | exact Nat.lt_trans (np_lt _ _) (by decide) | exact Nat.lt_trans (p_at_lt htx) (by decide)) (by first | omega | exact Nat.lt_of_le_of_lt Nat.and_le_right (by decide) | exact Nat.lt_trans (nm_lt _ _) (by decide) | exact Nat.lt_trans (np_lt _ _) (by decide) | exact Nat.lt_trans (p_at_lt htx) (by decide))).mpr qq9)
                              refine lv_iconst (v := nI 1) hx hb dX7_solve_208 (by decide) ?_
                              refine lv_goto (tgt := 213) hx hb dX7_solve_209 (by decide) ?_
                              refine lv_istore (lv' := [(5, .int (nI 1)), (0, .ref mx), (2, .int (nI lf)), (3, .int (nI y)), (4, .int (nI b))]) hx hb dX7_solve_213 hl (by decide) rfl (fun ls hl => ?_)
                              refine lv_iload_n hx hb dX7_solve_215 rfl (lv_at hl 2 rfl) ?_
                              refine lv_iload hx hb dX7_solve_216 (lv_at hl 0 rfl) ?_
                              refine lv_if_eq (tgt := 231) hx hb dX7_solve_218 (by decide) (fun c218 => ?_) (fun c218 => ?_)
                              · exact absurd c218 (by decide)
                              · refine lv_aload_n hx hb dX7_solve_221 rfl (lv_at hl 1 rfl) ?_
                                refine va_get (D := D) (ci := 7) (v := .ref vc) (C := RX7) (T := TX7) (N := 17) hx hb hts hwd1 hown hK hP 0 rfl rfl 15 (by decide) hwd2 (fun _ h9 => h9) rfl dX7_solve_222 ?_
                                refine lv_iload hx hb dX7_solve_225 (lv_at hl 4 rfl) ?_
                                refine va_iald hx hb hK hP 1 0 rfl rfl (m_in (n := b) (by first | assumption | omega) (by decide)) dX7_solve_227 ?_
                                refine lv_topi (nm_r (m_ldn (g := c2) (n := b) (by omega)) ?_)
                                refine lv_goto (tgt := 232) hx hb dX7_solve_228 (by decide) ?_
                                refine lv_ixor hx hb dX7_solve_232 ?_
                                refine lv_topi (nm_r (nx_xor _ _) ?_)
                                refine lv_istore_n (lv' := [(2, .int (nI (lf ^^^ (c2 b)))), (5, .int (nI 1)), (0, .ref mx), (3, .int (nI y)), (4, .int (nI b))]) hx hb dX7_solve_233 rfl hl (by decide) rfl (fun ls hl => ?_)
                                refine lv_iload_n hx hb dX7_solve_234 rfl (lv_at hl 3 rfl) ?_
                                refine lv_iload hx hb dX7_solve_235 (lv_at hl 1 rfl) ?_
                                refine lv_if_eq (tgt := 250) hx hb dX7_solve_237 (by decide) (fun c237 => ?_) (fun c237 => ?_)
                                · exact absurd c237 (by decide)
                                · refine lv_aload_n hx hb dX7_solve_240 rfl (lv_at hl 2 rfl) ?_
                                  refine va_get (D := D) (ci := 7) (v := .ref vb) (C := RX7) (T := TX7) (N := 17) hx hb hts hwd1 hown hK hP 0 rfl rfl 16 (by decide) hwd3 (fun _ h9 => h9) rfl dX7_solve_241 ?_
                                  refine lv_iload hx hb dX7_solve_244 (lv_at hl 4 rfl) ?_
                                  refine va_iald hx hb hK hP 2 0 rfl rfl (m_in (n := b) (by first | assumption | omega) (by decide)) dX7_solve_246 ?_
                                  refine lv_topi (nm_r (m_ldn (g := b2) (n := b) (by omega)) ?_)
                                  refine lv_goto (tgt := 251) hx hb dX7_solve_247 (by decide) ?_
                                  refine lv_ixor hx hb dX7_solve_251 ?_
                                  refine lv_topi (nm_r (nx_xor _ _) ?_)
                                  refine lv_istore_n (lv' := [(3, .int (nI (y ^^^ (b2 b)))), (2, .int (nI (lf ^^^ (c2 b)))), (5, .int (nI 1)), (0, .ref mx), (4, .int (nI b))]) hx hb dX7_solve_252 rfl hl (by decide) rfl (fun ls hl => ?_)
                                  refine lv_iinc (v := nI b + (-1)) (lv' := [(4, .int (nI b + (-1))), (3, .int (nI (y ^^^ (b2 b)))), (2, .int (nI (lf ^^^ (c2 b)))), (5, .int (nI 1)), (0, .ref mx)]) hx hb dX7_solve_253 hl (k := 4) rfl (rfl) (by decide) rfl (fun ls hl => ?_)
                                  refine lv_goto (tgt := 183) hx hb dX7_solve_256 (by decide) ?_
                                  exact ih183 (lf ^^^ (c2 b)) (y ^^^ (b2 b)) (nI b + (-1)) b _ _ ls (by omega) (s_down b) (by first | (rw [Nat.xor_zero]; exact hlf) | exact n_x16 hlf (by rw [hcb, if_pos (by omega)]; exact s_phi_lt (by omega))) (by rw [show min b 15 = b by omega, ← hv]; first | (rw [Nat.xor_zero, Nat.xor_zero, show min (b + 1) 15 = b by omega]) | (rw [Nat.xor_zero, Nat.xor_zero, show min (b + 1) 15 = b + 1 by omega]; exact n_ls_f (b := b + 1) (by omega) (fun q => c195 ((n_tb lf b).mpr q))) | (rw [hcb, hbb, if_pos (by omega), if_pos (by omega), show min (b + 1) 15 = b + 1 by omega]; exact n_ls_t (b := b + 1) (by omega) ((n_tb lf b).mp c195))) (by omega) hP hD hS (lv_sub hl [4, 2, 1, 0] rfl)
                exact lp183_6 _ x 0 (nI 15) 16 _ _ ls (by first | assumption | omega) (Or.inr ⟨15, rfl, rfl⟩) (by first | assumption | omega) (rfl) (Nat.lt_succ_self _) hP hD hS (lv_sub hl [3, 2, 1, 0] rfl)
              · have c51 : ¬ (16 ≤ k) := fun qq9 => c51 ((nI_leI (a := 16) (b := k) (by first | omega | exact Nat.lt_of_le_of_lt Nat.and_le_right (by decide) | exact Nat.lt_trans (nm_lt _ _) (by decide) | exact Nat.lt_trans (np_lt _ _) (by decide) | exact Nat.lt_trans (p_at_lt htx) (by decide)) (by first | omega | exact Nat.lt_of_le_of_lt Nat.and_le_right (by decide) | exact Nat.lt_trans (nm_lt _ _) (by decide) | exact Nat.lt_trans (np_lt _ _) (by decide) | exact Nat.lt_trans (p_at_lt htx) (by decide))).mpr qq9)
                refine lv_iconst (v := nI 1) hx hb dX7_solve_54 (by decide) ?_
                refine lv_iload_n hx hb dX7_solve_55 rfl (lv_at hl 2 rfl) ?_
                refine lv_ishl hx hb dX7_solve_56 ?_
                refine lv_topi (nm_r (m_shl _ _ (by omega)) ?_)
                refine lv_iconst (v := nI 1) hx hb dX7_solve_57 (by decide) ?_
                refine lv_iload_n hx hb dX7_solve_58 rfl (lv_at hl 2 rfl) ?_
                refine lv_ishl hx hb dX7_solve_59 ?_
                refine lv_topi (nm_r (m_shl _ _ (by omega)) ?_)
                refine m_callSi (As := [.int (nI (1 <<< k)), .int (nI (1 <<< k))]) (rest := []) C0 hl hP hD hS (c_X7_times l D cY (1 <<< k) (1 <<< k) (n_sh1 (by omega)) (n_sh1 (by omega))) (va_cwS 2 hts gX7_solve_X7_times rfl rfl rfl (by decide +kernel) ⟨Nat.le_of_ble_eq_true rfl, Nat.le_of_ble_eq_true rfl⟩) dX7_solve_60 [] rfl rfl rfl (Nat.le_of_ble_eq_true rfl) (Nat.zero_le _) (Nat.zero_le _) (fun _ => rfl) (fun r8 u H7 locs hw hP hD hS => ?_)
                try dsimp only at hw
                obtain rfl := hw
                have hP : va_P D vwCl [(mx, .inr (7, [.ref va, .ref vk, .ref vr, .int (nI rl), .ref vs, .int (nI ik), .int (nI 0), .ref vt, .int (nI tl), .int (nI ta), .int yr, .int ys, .int yo, .int yf, .int ye, .ref vc, .ref vb])), (vc, .inl (cY 0, 16, .inl (m_nf c2))), (vb, .inl (cY 0, 16, .inl (m_nf b2)))] H7 := hP
                have hD : va_D A [(mx, .inr (7, [.ref va, .ref vk, .ref vr, .int (nI rl), .ref vs, .int (nI ik), .int (nI 0), .ref vt, .int (nI tl), .int (nI ta), .int yr, .int ys, .int yo, .int yf, .int ye, .ref vc, .ref vb])), (vc, .inl (cY 0, 16, .inl (m_nf c2))), (vb, .inl (cY 0, 16, .inl (m_nf b2)))] := hD
                refine lv_iconst (v := nI 1) hx hb dX7_solve_63 (by decide) ?_
                refine lv_iload_n hx hb dX7_solve_64 rfl (lv_at hl 2 rfl) ?_
                refine lv_ishl hx hb dX7_solve_65 ?_
                refine lv_topi (nm_r (m_shl _ _ (by omega)) ?_)
                refine lv_ixor hx hb dX7_solve_66 ?_
                refine lv_topi (nm_r (nx_xor _ _) ?_)
                refine lv_topi (nm_r (show nI (nm (1 <<< k) (1 <<< k) ^^^ 1 <<< k) = nI (s_phi k) from rfl) ?_)
                refine lv_istore_n (lv' := [(3, .int (nI (s_phi k))), (0, .ref mx), (1, .int (nI x)), (2, .int (nI k))]) hx hb dX7_solve_67 rfl hl (by decide) rfl (fun ls hl => ?_)
                refine lv_iconst (v := nI 1) hx hb dX7_solve_68 (by decide) ?_
                refine lv_iload_n hx hb dX7_solve_69 rfl (lv_at hl 3 rfl) ?_
                refine lv_ishl hx hb dX7_solve_70 ?_
                refine lv_topi (nm_r (m_shl _ _ (by omega)) ?_)
                refine lv_istore (lv' := [(4, .int (nI (1 <<< k))), (3, .int (nI (s_phi k))), (0, .ref mx), (1, .int (nI x)), (2, .int (nI k))]) hx hb dX7_solve_71 hl (by decide) rfl (fun ls hl => ?_)
                refine lv_bipush (v := nI 15) hx hb dX7_solve_73 (by decide) ?_
                refine lv_istore (lv' := [(5, .int (nI 15)), (4, .int (nI (1 <<< k))), (3, .int (nI (s_phi k))), (0, .ref mx), (1, .int (nI x)), (2, .int (nI k))]) hx hb dX7_solve_75 hl (by decide) rfl (fun ls hl => ?_)
                have lp77_9 : ∀ (nn : Nat) (it : Nat) (fr : Nat) (z : Int32) (w : Nat) (c3 : Nat → Nat) (b3 : Nat → Nat) (H : Heap) (locs : List Loc) (ls : Array Slot), (w ≤ 16) → ((w = 0 ∧ z = -1) ∨ ∃ b, w = b + 1 ∧ z = nI b) → (it < 65536) → ((k ≤ w ∧ it = s_phi k ∧ fr = 1 <<< k ∧ c3 = c2 ∧ b3 = b2) ∨ (w < k ∧ it = 0 ∧ c3 = m_up c2 (k - 1) (s_phi k) ∧ b3 = m_up b2 (k - 1) (1 <<< k))) → w < nn → va_P D vwCl [(mx, .inr (7, [.ref va, .ref vk, .ref vr, .int (nI rl), .ref vs, .int (nI ik), .int (nI 0), .ref vt, .int (nI tl), .int (nI ta), .int yr, .int ys, .int yo, .int yf, .int ye, .ref vc, .ref vb])), (vc, .inl (cY 0, 16, .inl (m_nf c3))), (vb, .inl (cY 0, 16, .inl (m_nf b3)))] H → va_D A [(mx, .inr (7, [.ref va, .ref vk, .ref vr, .int (nI rl), .ref vs, .int (nI ik), .int (nI 0), .ref vt, .int (nI tl), .int (nI ta), .int yr, .int ys, .int yo, .int yf, .int ye, .ref vc, .ref vb])), (vc, .inl (cY 0, 16, .inl (m_nf c3))), (vb, .inl (cY 0, 16, .inl (m_nf b3)))] → va_S A s.heap H locs → lv_has ls 7 [(0, .ref mx), (1, .int (nI x)), (2, .int (nI k)), (3, .int (nI it)), (4, .int (nI fr)), (5, .int z)] → W p l e { frames := 4, cells := 0, slots := 0, locals := 96 } s m ([.ref mx, .int (nI x)] : List Value).toArray below meth c H locs 0 0 Q (F0 m 77 ls []) := by
                  intro nn
                  induction nn with
                  | zero => intros; omega
                  | succ nn ih77 =>
                    intro it fr z w c3 b3 H locs ls hw16 hzw hit hst hmz hP hD hS hl
                    refine lv_iload hx hb dX7_solve_77 (lv_at hl 5 rfl) ?_
                    rcases hzw with ⟨hw0, rfl⟩ | ⟨b, hwb, rfl⟩
                    · skip
                      refine lv_if_lt (tgt := 169) hx hb dX7_solve_79 (by decide) (fun c79 => ?_) (fun c79 => ?_)
                      · have c79 := c79
                        have hk0 := hk.1
                        have hpl := hst.resolve_left (fun q => by have := q.1; omega)
                        refine lv_iinc (v := nI (k + 1)) (lv' := [(2, .int (nI (k + 1))), (0, .ref mx), (1, .int (nI x)), (3, .int (nI it)), (4, .int (nI fr)), (5, .int (-1))]) hx hb dX7_solve_169 hl (k := 2) rfl (nI_add _ 1) (by decide) rfl (fun ls hl => ?_)
                        refine lv_goto (tgt := 48) hx hb dX7_solve_172 (by decide) ?_
                        exact ih48 (k + 1) c3 b3 _ _ ls (by first | assumption | omega) (by rw [hpl.2.2.1]; exact s_cm_up hc2 hk.1) (by rw [hpl.2.2.2]; exact s_bt_up hb2 hk.1) (by omega) hP hD hS (lv_sub hl [1, 2, 0] rfl)
                      · have c79 := c79
                        exfalso; exact c79 (by decide)
                    · skip
                      refine lv_if_lt (tgt := 169) hx hb dX7_solve_79 (by decide) (fun c79 => ?_) (fun c79 => ?_)
                      · have c79 : b < 0 := (nI_ltI (a := b) (b := 0) (by first | omega | exact Nat.lt_of_le_of_lt Nat.and_le_right (by decide) | exact Nat.lt_trans (nm_lt _ _) (by decide) | exact Nat.lt_trans (np_lt _ _) (by decide) | exact Nat.lt_trans (p_at_lt htx) (by decide)) (by first | omega | exact Nat.lt_of_le_of_lt Nat.and_le_right (by decide) | exact Nat.lt_trans (nm_lt _ _) (by decide) | exact Nat.lt_trans (np_lt _ _) (by decide) | exact Nat.lt_trans (p_at_lt htx) (by decide))).mp c79
                        exfalso; omega
                      · have c79 : ¬ (b < 0) := fun qq9 => c79 ((nI_ltI (a := b) (b := 0) (by first | omega | exact Nat.lt_of_le_of_lt Nat.and_le_right (by decide) | exact Nat.lt_trans (nm_lt _ _) (by decide) | exact Nat.lt_trans (np_lt _ _) (by decide) | exact Nat.lt_trans (p_at_lt htx) (by decide)) (by first | omega | exact Nat.lt_of_le_of_lt Nat.and_le_right (by decide) | exact Nat.lt_trans (nm_lt _ _) (by decide) | exact Nat.lt_trans (np_lt _ _) (by decide) | exact Nat.lt_trans (p_at_lt htx) (by decide))).mpr qq9)
                        subst hwb
                        rcases (show ((k ≤ b + 1 ∧ it = s_phi k ∧ fr = 1 <<< k ∧ c3 = c2 ∧ b3 = b2) ∧ k ≤ b) ∨ ((k ≤ b + 1 ∧ it = s_phi k ∧ fr = 1 <<< k ∧ c3 = c2 ∧ b3 = b2) ∧ b < k) ∨ (b + 1 < k ∧ it = 0 ∧ c3 = m_up c2 (k - 1) (s_phi k) ∧ b3 = m_up b2 (k - 1) (1 <<< k)) from by rcases hst with h | h; { rcases Nat.lt_or_ge b k with q | q; { exact Or.inr (Or.inl ⟨h, q⟩) }; { exact Or.inl ⟨h, q⟩ } }; { exact Or.inr (Or.inr h) }) with ⟨hA, hge⟩ | ⟨hA, hlt⟩ | hC
                        · skip
                          have hbit : ¬ it.testBit b = true := by rw [hA.2.1]; exact (s_phi_is (k := k) (by omega) (by omega)).2.1 b (by omega) hge
                          refine lv_iload_n hx hb dX7_solve_82 rfl (lv_at hl 3 rfl) ?_
                          refine lv_iload hx hb dX7_solve_83 (lv_at hl 5 rfl) ?_
                          refine lv_ishr hx hb dX7_solve_85 ?_
                          refine lv_topi (nm_r (m_shr _ _ (by omega) (by omega)) ?_)
                          refine lv_iconst (v := nI 1) hx hb dX7_solve_86 (by decide) ?_
                          refine lv_iand hx hb dX7_solve_87 ?_
                          refine lv_topi (nm_r (nx_and _ _) ?_)
                          refine lv_iconst (v := nI 1) hx hb dX7_solve_88 (by decide) ?_
                          refine lv_icmp_ne (tgt := 96) hx hb dX7_solve_89 (by decide) (fun c89 => ?_) (fun c89 => ?_)
                          · have c89 : ¬ (((it >>> b) &&& 1) = 1) := fun qq9 => c89 ((nI_eq (a := ((it >>> b) &&& 1)) (b := 1) (by first | omega | exact Nat.lt_of_le_of_lt Nat.and_le_right (by decide) | exact Nat.lt_trans (nm_lt _ _) (by decide) | exact Nat.lt_trans (np_lt _ _) (by decide) | exact Nat.lt_trans (p_at_lt htx) (by decide)) (by first | omega | exact Nat.lt_of_le_of_lt Nat.and_le_right (by decide) | exact Nat.lt_trans (nm_lt _ _) (by decide) | exact Nat.lt_trans (np_lt _ _) (by decide) | exact Nat.lt_trans (p_at_lt htx) (by decide))).mpr qq9)
                            refine lv_iconst (v := nI 0) hx hb dX7_solve_96 (by decide) ?_
                            refine lv_istore (lv' := [(6, .int (nI 0)), (0, .ref mx), (1, .int (nI x)), (2, .int (nI k)), (3, .int (nI it)), (4, .int (nI fr)), (5, .int (nI b))]) hx hb dX7_solve_97 hl (by decide) rfl (fun ls hl => ?_)
                            refine lv_iload hx hb dX7_solve_99 (lv_at hl 0 rfl) ?_
                            refine lv_if_eq (tgt := 136) hx hb dX7_solve_101 (by decide) (fun c101 => ?_) (fun c101 => ?_)
                            · refine lv_iload hx hb dX7_solve_136 (lv_at hl 0 rfl) ?_
                              refine lv_if_eq (tgt := 163) hx hb dX7_solve_138 (by decide) (fun c138 => ?_) (fun c138 => ?_)
                              · refine lv_iinc (v := nI b + (-1)) (lv' := [(5, .int (nI b + (-1))), (6, .int (nI 0)), (0, .ref mx), (1, .int (nI x)), (2, .int (nI k)), (3, .int (nI it)), (4, .int (nI fr))]) hx hb dX7_solve_163 hl (k := 6) rfl (rfl) (by decide) rfl (fun ls hl => ?_)
                                refine lv_goto (tgt := 77) hx hb dX7_solve_166 (by decide) ?_
                                exact ih77 it fr (nI b + (-1)) b c3 b3 _ _ ls (by omega) (s_down b) (by first | assumption | decide) (by first | exact Or.inl ⟨by omega, hA.2.1, hA.2.2.1, hA.2.2.2⟩ | exact Or.inr ⟨by omega, hC.2.1, hC.2.2.1, hC.2.2.2⟩ | exact Or.inr ⟨by omega, rfl, by rw [hA.2.2.2.1, hA.2.1, hbk], by rw [hA.2.2.2.2, hA.2.2.1, hbk]⟩) (by omega) hP hD hS (lv_sub hl [2, 3, 4, 5, 6, 0] rfl)
                              · exact absurd c138 (by decide)
                            · exact absurd c101 (by decide)
                          · have c89 : ((it >>> b) &&& 1) = 1 := (nI_eq (a := ((it >>> b) &&& 1)) (b := 1) (by first | omega | exact Nat.lt_of_le_of_lt Nat.and_le_right (by decide) | exact Nat.lt_trans (nm_lt _ _) (by decide) | exact Nat.lt_trans (np_lt _ _) (by decide) | exact Nat.lt_trans (p_at_lt htx) (by decide)) (by first | omega | exact Nat.lt_of_le_of_lt Nat.and_le_right (by decide) | exact Nat.lt_trans (nm_lt _ _) (by decide) | exact Nat.lt_trans (np_lt _ _) (by decide) | exact Nat.lt_trans (p_at_lt htx) (by decide))).mp c89
                            exfalso; exact hbit ((n_tb it b).mp c89)
                        · skip
                          have hbk : b = k - 1 := by omega
                          have hbit : it.testBit b = true := by rw [hA.2.1, hbk]; exact (s_phi_is (k := k) (by omega) (by omega)).1
                          have hcb : c3 b = 0 := by rw [hA.2.2.2.1, hc2 b (by omega), if_neg (by omega)]
                          refine lv_iload_n hx hb dX7_solve_82 rfl (lv_at hl 3 rfl) ?_
                          refine lv_iload hx hb dX7_solve_83 (lv_at hl 5 rfl) ?_
                          refine lv_ishr hx hb dX7_solve_85 ?_
                          refine lv_topi (nm_r (m_shr _ _ (by omega) (by omega)) ?_)
                          refine lv_iconst (v := nI 1) hx hb dX7_solve_86 (by decide) ?_
                          refine lv_iand hx hb dX7_solve_87 ?_
                          refine lv_topi (nm_r (nx_and _ _) ?_)
                          refine lv_iconst (v := nI 1) hx hb dX7_solve_88 (by decide) ?_
                          refine lv_icmp_ne (tgt := 96) hx hb dX7_solve_89 (by decide) (fun c89 => ?_) (fun c89 => ?_)
                          · have c89 : ¬ (((it >>> b) &&& 1) = 1) := fun qq9 => c89 ((nI_eq (a := ((it >>> b) &&& 1)) (b := 1) (by first | omega | exact Nat.lt_of_le_of_lt Nat.and_le_right (by decide) | exact Nat.lt_trans (nm_lt _ _) (by decide) | exact Nat.lt_trans (np_lt _ _) (by decide) | exact Nat.lt_trans (p_at_lt htx) (by decide)) (by first | omega | exact Nat.lt_of_le_of_lt Nat.and_le_right (by decide) | exact Nat.lt_trans (nm_lt _ _) (by decide) | exact Nat.lt_trans (np_lt _ _) (by decide) | exact Nat.lt_trans (p_at_lt htx) (by decide))).mpr qq9)
                            exfalso; exact c89 ((n_tb it b).mpr hbit)
                          · have c89 : ((it >>> b) &&& 1) = 1 := (nI_eq (a := ((it >>> b) &&& 1)) (b := 1) (by first | omega | exact Nat.lt_of_le_of_lt Nat.and_le_right (by decide) | exact Nat.lt_trans (nm_lt _ _) (by decide) | exact Nat.lt_trans (np_lt _ _) (by decide) | exact Nat.lt_trans (p_at_lt htx) (by decide)) (by first | omega | exact Nat.lt_of_le_of_lt Nat.and_le_right (by decide) | exact Nat.lt_trans (nm_lt _ _) (by decide) | exact Nat.lt_trans (np_lt _ _) (by decide) | exact Nat.lt_trans (p_at_lt htx) (by decide))).mp c89
                            refine lv_iconst (v := nI 1) hx hb dX7_solve_92 (by decide) ?_
                            refine lv_goto (tgt := 97) hx hb dX7_solve_93 (by decide) ?_
                            refine lv_istore (lv' := [(6, .int (nI 1)), (0, .ref mx), (1, .int (nI x)), (2, .int (nI k)), (3, .int (nI it)), (4, .int (nI fr)), (5, .int (nI b))]) hx hb dX7_solve_97 hl (by decide) rfl (fun ls hl => ?_)
                            refine lv_iload hx hb dX7_solve_99 (lv_at hl 0 rfl) ?_
                            refine lv_if_eq (tgt := 136) hx hb dX7_solve_101 (by decide) (fun c101 => ?_) (fun c101 => ?_)
                            · exact absurd c101 (by decide)
                            · refine lv_aload_n hx hb dX7_solve_104 rfl (lv_at hl 1 rfl) ?_
                              refine va_get (D := D) (ci := 7) (v := .ref vc) (C := RX7) (T := TX7) (N := 17) hx hb hts hwd1 hown hK hP 0 rfl rfl 15 (by decide) hwd2 (fun _ h9 => h9) rfl dX7_solve_105 ?_
                              refine lv_iload hx hb dX7_solve_108 (lv_at hl 6 rfl) ?_
                              refine va_iald hx hb hK hP 1 0 rfl rfl (m_in (n := b) (by first | assumption | omega) (by decide)) dX7_solve_110 ?_
                              refine lv_topi (nm_r (m_ldn (g := c3) (n := b) (by omega)) ?_)
                              refine lv_if_ne (tgt := 136) hx hb dX7_solve_111 (by decide) (fun c111 => ?_) (fun c111 => ?_)
                              · have c111 : ¬ ((c3 b) = 0) := fun qq9 => c111 ((nI_eq (a := (c3 b)) (b := 0) (by first | omega | exact Nat.lt_of_le_of_lt Nat.and_le_right (by decide) | exact Nat.lt_trans (nm_lt _ _) (by decide) | exact Nat.lt_trans (np_lt _ _) (by decide) | exact Nat.lt_trans (p_at_lt htx) (by decide)) (by first | omega | exact Nat.lt_of_le_of_lt Nat.and_le_right (by decide) | exact Nat.lt_trans (nm_lt _ _) (by decide) | exact Nat.lt_trans (np_lt _ _) (by decide) | exact Nat.lt_trans (p_at_lt htx) (by decide))).mpr qq9)
                                exfalso; omega
                              · have c111 : (c3 b) = 0 := (nI_eq (a := (c3 b)) (b := 0) (by first | omega | exact Nat.lt_of_le_of_lt Nat.and_le_right (by decide) | exact Nat.lt_trans (nm_lt _ _) (by decide) | exact Nat.lt_trans (np_lt _ _) (by decide) | exact Nat.lt_trans (p_at_lt htx) (by decide)) (by first | omega | exact Nat.lt_of_le_of_lt Nat.and_le_right (by decide) | exact Nat.lt_trans (nm_lt _ _) (by decide) | exact Nat.lt_trans (np_lt _ _) (by decide) | exact Nat.lt_trans (p_at_lt htx) (by decide))).mp c111
                                refine lv_aload_n hx hb dX7_solve_114 rfl (lv_at hl 1 rfl) ?_
                                refine va_get (D := D) (ci := 7) (v := .ref vc) (C := RX7) (T := TX7) (N := 17) hx hb hts hwd1 hown hK hP 0 rfl rfl 15 (by decide) hwd2 (fun _ h9 => h9) rfl dX7_solve_115 ?_
                                refine lv_iload hx hb dX7_solve_118 (lv_at hl 6 rfl) ?_
                                refine lv_iload_n hx hb dX7_solve_120 rfl (lv_at hl 4 rfl) ?_
                                refine va_iast hx hb hK hP hD hS 1 0 rfl rfl (m_in (n := b) (by first | assumption | omega) (by decide)) dX7_solve_121 (fun H10 locs hP hD hS => ?_)
                                have hP : va_P D vwCl [(mx, .inr (7, [.ref va, .ref vk, .ref vr, .int (nI rl), .ref vs, .int (nI ik), .int (nI 0), .ref vt, .int (nI tl), .int (nI ta), .int yr, .int ys, .int yo, .int yf, .int ye, .ref vc, .ref vb])), (vc, .inl (cY 0, 16, .inl (upd (m_nf c3) (nI b).toNatClampNeg (nI it)))), (vb, .inl (cY 0, 16, .inl (m_nf b3)))] H10 := hP
                                have hD : va_D A [(mx, .inr (7, [.ref va, .ref vk, .ref vr, .int (nI rl), .ref vs, .int (nI ik), .int (nI 0), .ref vt, .int (nI tl), .int (nI ta), .int yr, .int ys, .int yo, .int yf, .int ye, .ref vc, .ref vb])), (vc, .inl (cY 0, 16, .inl (upd (m_nf c3) (nI b).toNatClampNeg (nI it)))), (vb, .inl (cY 0, 16, .inl (m_nf b3)))] := hD
                                rw [m_upd (g := c3) (n := b) (v := it) (by omega)] at hP hD
                                have hP : va_P D vwCl [(mx, .inr (7, [.ref va, .ref vk, .ref vr, .int (nI rl), .ref vs, .int (nI ik), .int (nI 0), .ref vt, .int (nI tl), .int (nI ta), .int yr, .int ys, .int yo, .int yf, .int ye, .ref vc, .ref vb])), (vc, .inl (cY 0, 16, .inl (m_nf (m_up c3 b it)))), (vb, .inl (cY 0, 16, .inl (m_nf b3)))] H10 := hP
                                have hD : va_D A [(mx, .inr (7, [.ref va, .ref vk, .ref vr, .int (nI rl), .ref vs, .int (nI ik), .int (nI 0), .ref vt, .int (nI tl), .int (nI ta), .int yr, .int ys, .int yo, .int yf, .int ye, .ref vc, .ref vb])), (vc, .inl (cY 0, 16, .inl (m_nf (m_up c3 b it)))), (vb, .inl (cY 0, 16, .inl (m_nf b3)))] := hD
                                refine lv_aload_n hx hb dX7_solve_122 rfl (lv_at hl 1 rfl) ?_
                                refine va_get (D := D) (ci := 7) (v := .ref vb) (C := RX7) (T := TX7) (N := 17) hx hb hts hwd1 hown hK hP 0 rfl rfl 16 (by decide) hwd3 (fun _ h9 => h9) rfl dX7_solve_123 ?_
                                refine lv_iload hx hb dX7_solve_126 (lv_at hl 6 rfl) ?_
                                refine lv_iload hx hb dX7_solve_128 (lv_at hl 5 rfl) ?_
                                refine va_iast hx hb hK hP hD hS 2 0 rfl rfl (m_in (n := b) (by first | assumption | omega) (by decide)) dX7_solve_130 (fun H11 locs hP hD hS => ?_)
                                have hP : va_P D vwCl [(mx, .inr (7, [.ref va, .ref vk, .ref vr, .int (nI rl), .ref vs, .int (nI ik), .int (nI 0), .ref vt, .int (nI tl), .int (nI ta), .int yr, .int ys, .int yo, .int yf, .int ye, .ref vc, .ref vb])), (vc, .inl (cY 0, 16, .inl (m_nf (m_up c3 b it)))), (vb, .inl (cY 0, 16, .inl (upd (m_nf b3) (nI b).toNatClampNeg (nI fr))))] H11 := hP
                                have hD : va_D A [(mx, .inr (7, [.ref va, .ref vk, .ref vr, .int (nI rl), .ref vs, .int (nI ik), .int (nI 0), .ref vt, .int (nI tl), .int (nI ta), .int yr, .int ys, .int yo, .int yf, .int ye, .ref vc, .ref vb])), (vc, .inl (cY 0, 16, .inl (m_nf (m_up c3 b it)))), (vb, .inl (cY 0, 16, .inl (upd (m_nf b3) (nI b).toNatClampNeg (nI fr))))] := hD
                                rw [m_upd (g := b3) (n := b) (v := fr) (by omega)] at hP hD
                                have hP : va_P D vwCl [(mx, .inr (7, [.ref va, .ref vk, .ref vr, .int (nI rl), .ref vs, .int (nI ik), .int (nI 0), .ref vt, .int (nI tl), .int (nI ta), .int yr, .int ys, .int yo, .int yf, .int ye, .ref vc, .ref vb])), (vc, .inl (cY 0, 16, .inl (m_nf (m_up c3 b it)))), (vb, .inl (cY 0, 16, .inl (m_nf (m_up b3 b fr))))] H11 := hP
                                have hD : va_D A [(mx, .inr (7, [.ref va, .ref vk, .ref vr, .int (nI rl), .ref vs, .int (nI ik), .int (nI 0), .ref vt, .int (nI tl), .int (nI ta), .int yr, .int ys, .int yo, .int yf, .int ye, .ref vc, .ref vb])), (vc, .inl (cY 0, 16, .inl (m_nf (m_up c3 b it)))), (vb, .inl (cY 0, 16, .inl (m_nf (m_up b3 b fr))))] := hD
                                refine lv_iconst (v := nI 0) hx hb dX7_solve_131 (by decide) ?_
                                refine lv_istore_n (lv' := [(3, .int (nI 0)), (6, .int (nI 1)), (0, .ref mx), (1, .int (nI x)), (2, .int (nI k)), (4, .int (nI fr)), (5, .int (nI b))]) hx hb dX7_solve_132 rfl hl (by decide) rfl (fun ls hl => ?_)
                                refine lv_goto (tgt := 163) hx hb dX7_solve_133 (by decide) ?_
                                refine lv_iinc (v := nI b + (-1)) (lv' := [(5, .int (nI b + (-1))), (3, .int (nI 0)), (6, .int (nI 1)), (0, .ref mx), (1, .int (nI x)), (2, .int (nI k)), (4, .int (nI fr))]) hx hb dX7_solve_163 hl (k := 6) rfl (rfl) (by decide) rfl (fun ls hl => ?_)
                                refine lv_goto (tgt := 77) hx hb dX7_solve_166 (by decide) ?_
                                exact ih77 0 fr (nI b + (-1)) b (m_up c3 b it) (m_up b3 b fr) _ _ ls (by omega) (s_down b) (by first | assumption | decide) (by first | exact Or.inl ⟨by omega, hA.2.1, hA.2.2.1, hA.2.2.2⟩ | exact Or.inr ⟨by omega, hC.2.1, hC.2.2.1, hC.2.2.2⟩ | exact Or.inr ⟨by omega, rfl, by rw [hA.2.2.2.1, hA.2.1, hbk], by rw [hA.2.2.2.2, hA.2.2.1, hbk]⟩) (by omega) hP hD hS (lv_sub hl [3, 4, 5, 1, 6, 0] rfl)
                        · skip
                          have hbit : ¬ it.testBit b = true := by rw [hC.2.1, Nat.zero_testBit]; simp
                          refine lv_iload_n hx hb dX7_solve_82 rfl (lv_at hl 3 rfl) ?_
                          refine lv_iload hx hb dX7_solve_83 (lv_at hl 5 rfl) ?_
                          refine lv_ishr hx hb dX7_solve_85 ?_
                          refine lv_topi (nm_r (m_shr _ _ (by omega) (by omega)) ?_)
                          refine lv_iconst (v := nI 1) hx hb dX7_solve_86 (by decide) ?_
                          refine lv_iand hx hb dX7_solve_87 ?_
                          refine lv_topi (nm_r (nx_and _ _) ?_)
                          refine lv_iconst (v := nI 1) hx hb dX7_solve_88 (by decide) ?_
                          refine lv_icmp_ne (tgt := 96) hx hb dX7_solve_89 (by decide) (fun c89 => ?_) (fun c89 => ?_)
                          · have c89 : ¬ (((it >>> b) &&& 1) = 1) := fun qq9 => c89 ((nI_eq (a := ((it >>> b) &&& 1)) (b := 1) (by first | omega | exact Nat.lt_of_le_of_lt Nat.and_le_right (by decide) | exact Nat.lt_trans (nm_lt _ _) (by decide) | exact Nat.lt_trans (np_lt _ _) (by decide) | exact Nat.lt_trans (p_at_lt htx) (by decide)) (by first | omega | exact Nat.lt_of_le_of_lt Nat.and_le_right (by decide) | exact Nat.lt_trans (nm_lt _ _) (by decide) | exact Nat.lt_trans (np_lt _ _) (by decide) | exact Nat.lt_trans (p_at_lt htx) (by decide))).mpr qq9)
                            refine lv_iconst (v := nI 0) hx hb dX7_solve_96 (by decide) ?_
                            refine lv_istore (lv' := [(6, .int (nI 0)), (0, .ref mx), (1, .int (nI x)), (2, .int (nI k)), (3, .int (nI it)), (4, .int (nI fr)), (5, .int (nI b))]) hx hb dX7_solve_97 hl (by decide) rfl (fun ls hl => ?_)
                            refine lv_iload hx hb dX7_solve_99 (lv_at hl 0 rfl) ?_
                            refine lv_if_eq (tgt := 136) hx hb dX7_solve_101 (by decide) (fun c101 => ?_) (fun c101 => ?_)
                            · refine lv_iload hx hb dX7_solve_136 (lv_at hl 0 rfl) ?_
                              refine lv_if_eq (tgt := 163) hx hb dX7_solve_138 (by decide) (fun c138 => ?_) (fun c138 => ?_)
                              · refine lv_iinc (v := nI b + (-1)) (lv' := [(5, .int (nI b + (-1))), (6, .int (nI 0)), (0, .ref mx), (1, .int (nI x)), (2, .int (nI k)), (3, .int (nI it)), (4, .int (nI fr))]) hx hb dX7_solve_163 hl (k := 6) rfl (rfl) (by decide) rfl (fun ls hl => ?_)
                                refine lv_goto (tgt := 77) hx hb dX7_solve_166 (by decide) ?_
                                exact ih77 it fr (nI b + (-1)) b c3 b3 _ _ ls (by omega) (s_down b) (by first | assumption | decide) (by first | exact Or.inl ⟨by omega, hA.2.1, hA.2.2.1, hA.2.2.2⟩ | exact Or.inr ⟨by omega, hC.2.1, hC.2.2.1, hC.2.2.2⟩ | exact Or.inr ⟨by omega, rfl, by rw [hA.2.2.2.1, hA.2.1, hbk], by rw [hA.2.2.2.2, hA.2.2.1, hbk]⟩) (by omega) hP hD hS (lv_sub hl [2, 3, 4, 5, 6, 0] rfl)
                              · exact absurd c138 (by decide)
                            · exact absurd c101 (by decide)
                          · have c89 : ((it >>> b) &&& 1) = 1 := (nI_eq (a := ((it >>> b) &&& 1)) (b := 1) (by first | omega | exact Nat.lt_of_le_of_lt Nat.and_le_right (by decide) | exact Nat.lt_trans (nm_lt _ _) (by decide) | exact Nat.lt_trans (np_lt _ _) (by decide) | exact Nat.lt_trans (p_at_lt htx) (by decide)) (by first | omega | exact Nat.lt_of_le_of_lt Nat.and_le_right (by decide) | exact Nat.lt_trans (nm_lt _ _) (by decide) | exact Nat.lt_trans (np_lt _ _) (by decide) | exact Nat.lt_trans (p_at_lt htx) (by decide))).mp c89
                            exfalso; exact hbit ((n_tb it b).mp c89)
                exact lp77_9 _ (s_phi k) (1 <<< k) (nI 15) 16 c2 b2 _ _ ls (by first | assumption | omega) (Or.inr ⟨15, rfl, rfl⟩) (s_phi_lt (by omega)) (Or.inl ⟨by omega, rfl, rfl, rfl, rfl⟩) (Nat.lt_succ_self _) hP hD hS (lv_sub hl [3, 4, 5, 2, 1, 0] rfl)
          exact lp48_5 _ 1 c1 b1 _ _ ls (by decide) (fun j hj => by rw [hz1 j (by omega), if_neg (by omega)]) (fun j hj => by rw [hz2 j (by omega), if_neg (by omega)]) (Nat.lt_succ_self _) hP hD hS (lv_sub hl [1, 2, 0] rfl)
        · have c23 : ¬ (16 ≤ k) := fun qq9 => c23 ((nI_leI (a := 16) (b := k) (by first | omega | exact Nat.lt_of_le_of_lt Nat.and_le_right (by decide) | exact Nat.lt_trans (nm_lt _ _) (by decide) | exact Nat.lt_trans (np_lt _ _) (by decide) | exact Nat.lt_trans (p_at_lt htx) (by decide)) (by first | omega | exact Nat.lt_of_le_of_lt Nat.and_le_right (by decide) | exact Nat.lt_trans (nm_lt _ _) (by decide) | exact Nat.lt_trans (np_lt _ _) (by decide) | exact Nat.lt_trans (p_at_lt htx) (by decide))).mpr qq9)
          refine lv_aload_n hx hb dX7_solve_26 rfl (lv_at hl 0 rfl) ?_
          refine va_get (D := D) (ci := 7) (v := .ref vc) (C := RX7) (T := TX7) (N := 17) hx hb hts hwd1 hown hK hP 0 rfl rfl 15 (by decide) hwd2 (fun _ h9 => h9) rfl dX7_solve_27 ?_
          refine lv_iload_n hx hb dX7_solve_30 rfl (lv_at hl 2 rfl) ?_
          refine lv_iconst (v := nI 0) hx hb dX7_solve_31 (by decide) ?_
          refine va_iast hx hb hK hP hD hS 1 0 rfl rfl (m_in (n := k) (by first | assumption | omega) (by decide)) dX7_solve_32 (fun H12 locs hP hD hS => ?_)
          have hP : va_P D vwCl [(mx, .inr (7, [.ref va, .ref vk, .ref vr, .int (nI rl), .ref vs, .int (nI ik), .int (nI 0), .ref vt, .int (nI tl), .int (nI ta), .int yr, .int ys, .int yo, .int yf, .int ye, .ref vc, .ref vb])), (vc, .inl (cY 0, 16, .inl (upd (m_nf c1) (nI k).toNatClampNeg (nI 0)))), (vb, .inl (cY 0, 16, .inl (m_nf b1)))] H12 := hP
          have hD : va_D A [(mx, .inr (7, [.ref va, .ref vk, .ref vr, .int (nI rl), .ref vs, .int (nI ik), .int (nI 0), .ref vt, .int (nI tl), .int (nI ta), .int yr, .int ys, .int yo, .int yf, .int ye, .ref vc, .ref vb])), (vc, .inl (cY 0, 16, .inl (upd (m_nf c1) (nI k).toNatClampNeg (nI 0)))), (vb, .inl (cY 0, 16, .inl (m_nf b1)))] := hD
          rw [m_upd (g := c1) (n := k) (v := 0) (by omega)] at hP hD
          have hP : va_P D vwCl [(mx, .inr (7, [.ref va, .ref vk, .ref vr, .int (nI rl), .ref vs, .int (nI ik), .int (nI 0), .ref vt, .int (nI tl), .int (nI ta), .int yr, .int ys, .int yo, .int yf, .int ye, .ref vc, .ref vb])), (vc, .inl (cY 0, 16, .inl (m_nf (m_up c1 k 0)))), (vb, .inl (cY 0, 16, .inl (m_nf b1)))] H12 := hP
          have hD : va_D A [(mx, .inr (7, [.ref va, .ref vk, .ref vr, .int (nI rl), .ref vs, .int (nI ik), .int (nI 0), .ref vt, .int (nI tl), .int (nI ta), .int yr, .int ys, .int yo, .int yf, .int ye, .ref vc, .ref vb])), (vc, .inl (cY 0, 16, .inl (m_nf (m_up c1 k 0)))), (vb, .inl (cY 0, 16, .inl (m_nf b1)))] := hD
          refine lv_aload_n hx hb dX7_solve_33 rfl (lv_at hl 0 rfl) ?_
          refine va_get (D := D) (ci := 7) (v := .ref vb) (C := RX7) (T := TX7) (N := 17) hx hb hts hwd1 hown hK hP 0 rfl rfl 16 (by decide) hwd3 (fun _ h9 => h9) rfl dX7_solve_34 ?_
          refine lv_iload_n hx hb dX7_solve_37 rfl (lv_at hl 2 rfl) ?_
          refine lv_iconst (v := nI 0) hx hb dX7_solve_38 (by decide) ?_
          refine va_iast hx hb hK hP hD hS 2 0 rfl rfl (m_in (n := k) (by first | assumption | omega) (by decide)) dX7_solve_39 (fun H13 locs hP hD hS => ?_)
          have hP : va_P D vwCl [(mx, .inr (7, [.ref va, .ref vk, .ref vr, .int (nI rl), .ref vs, .int (nI ik), .int (nI 0), .ref vt, .int (nI tl), .int (nI ta), .int yr, .int ys, .int yo, .int yf, .int ye, .ref vc, .ref vb])), (vc, .inl (cY 0, 16, .inl (m_nf (m_up c1 k 0)))), (vb, .inl (cY 0, 16, .inl (upd (m_nf b1) (nI k).toNatClampNeg (nI 0))))] H13 := hP
          have hD : va_D A [(mx, .inr (7, [.ref va, .ref vk, .ref vr, .int (nI rl), .ref vs, .int (nI ik), .int (nI 0), .ref vt, .int (nI tl), .int (nI ta), .int yr, .int ys, .int yo, .int yf, .int ye, .ref vc, .ref vb])), (vc, .inl (cY 0, 16, .inl (m_nf (m_up c1 k 0)))), (vb, .inl (cY 0, 16, .inl (upd (m_nf b1) (nI k).toNatClampNeg (nI 0))))] := hD
          rw [m_upd (g := b1) (n := k) (v := 0) (by omega)] at hP hD
          have hP : va_P D vwCl [(mx, .inr (7, [.ref va, .ref vk, .ref vr, .int (nI rl), .ref vs, .int (nI ik), .int (nI 0), .ref vt, .int (nI tl), .int (nI ta), .int yr, .int ys, .int yo, .int yf, .int ye, .ref vc, .ref vb])), (vc, .inl (cY 0, 16, .inl (m_nf (m_up c1 k 0)))), (vb, .inl (cY 0, 16, .inl (m_nf (m_up b1 k 0))))] H13 := hP
          have hD : va_D A [(mx, .inr (7, [.ref va, .ref vk, .ref vr, .int (nI rl), .ref vs, .int (nI ik), .int (nI 0), .ref vt, .int (nI tl), .int (nI ta), .int yr, .int ys, .int yo, .int yf, .int ye, .ref vc, .ref vb])), (vc, .inl (cY 0, 16, .inl (m_nf (m_up c1 k 0)))), (vb, .inl (cY 0, 16, .inl (m_nf (m_up b1 k 0))))] := hD
          refine lv_iinc (v := nI (k + 1)) (lv' := [(2, .int (nI (k + 1))), (0, .ref mx), (1, .int (nI x))]) hx hb dX7_solve_40 hl (k := 2) rfl (nI_add _ 1) (by decide) rfl (fun ls hl => ?_)
          refine lv_goto (tgt := 20) hx hb dX7_solve_43 (by decide) ?_
          exact ih20 (k + 1) (m_up c1 k 0) (m_up b1 k 0) _ _ ls (by first | assumption | omega) (fun j h => by (by_cases q : j = k); { subst q; rw [m_ups] }; { rw [m_upn _ _ q]; exact hz1 j (by omega) }) (fun j h => by (by_cases q : j = k); { subst q; rw [m_ups] }; { rw [m_upn _ _ q]; exact hz2 j (by omega) }) (by omega) hP hD hS (lv_sub hl [1, 2, 0] rfl)
    exact lp20_4 _ 0 cv bv _ _ ls (by first | assumption | omega) (fun j h => by omega) (fun j h => by omega) (Nat.lt_succ_self _) hP hD hS (lv_sub hl [1, 2, 0] rfl)
  · exact absurd c4 (by decide)
