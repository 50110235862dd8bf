set_option maxHeartbeats 4000000 in
set_option maxRecDepth 100000 in
theorem c_X7_set_f1 (l : Launch) (D : va_G) (cY : Nat → ClassId) (mx va vk vr vs vt vc vb : Nat) (rl ik th tl ta : Nat) (yr ys yo yf ye : Int32) (x y : Int32) (hn : ¬ m_isR x) : m_Mi l yX7_set wsX7_set 2 45 D cY [.ref mx, .int x, .int y] [(mx, .inr (7, [.ref va, .ref vk, .ref vr, .int (nI rl), .ref vs, .int (nI ik), .int (nI th), .ref vt, .int (nI tl), .int (nI ta), .int yr, .int ys, .int yo, .int yf, .int ye, .ref vc, .ref vb]))] (fun (res : Int32) (u : Unit) => res = nI 0) (fun (u : Unit) => [(mx, .inr (7, [.ref va, .ref vk, .ref vr, .int (nI rl), .ref vs, .int (nI ik), .int (nI 1), .ref vt, .int (nI tl), .int (nI ta), .int yr, .int ys, .int yo, .int yf, .int ye, .ref vc, .ref vb]))]) := by
  refine m_enterI (cc := cX7_set) (maxL := 3) (ret := (some .int)) (by decide +kernel) rfl (Nat.le_of_ble_eq_true rfl) ?_
  intro p e s m below meth c A ls C0 hP hD hl
  obtain ⟨hx, hb, hr, hml, hts, hown, hlocks, hK, hA⟩ := id C0
  generalize hQ : MQ below _ _ s 0 0 A = Q
  have hS : va_S A s.heap s.heap [] := va_S.rf
  have hl : lv_has ls 3 [(0, .ref mx), (1, .int x), (2, .int y)] := hl
  refine lv_iload_n hx hb dX7_set_0 rfl (lv_at hl 1 rfl) ?_
  refine m_callSi (As := [.int x]) (rest := []) C0 hl hP hD hS (c_X7_isRegister l D cY x ) (va_cwS 1 hts gX7_set_X7_isRegister rfl rfl rfl (by decide +kernel) ⟨Nat.le_of_ble_eq_true rfl, Nat.le_of_ble_eq_true rfl⟩) dX7_set_1 [] rfl rfl rfl (Nat.le_of_ble_eq_true rfl) (Nat.zero_le _) (Nat.zero_le _) (fun _ => rfl) (fun r2 u H1 locs hw hP hD hS => ?_)
  try dsimp only at hw
  obtain rfl := hw
  have hP : va_P D vwCl [(mx, .inr (7, [.ref va, .ref vk, .ref vr, .int (nI rl), .ref vs, .int (nI ik), .int (nI th), .ref vt, .int (nI tl), .int (nI ta), .int yr, .int ys, .int yo, .int yf, .int ye, .ref vc, .ref vb]))] H1 := hP
  have hD : va_D A [(mx, .inr (7, [.ref va, .ref vk, .ref vr, .int (nI rl), .ref vs, .int (nI ik), .int (nI th), .ref vt, .int (nI tl), .int (nI ta), .int yr, .int ys, .int yo, .int yf, .int ye, .ref vc, .ref vb]))] := hD
  refine lv_topi (nm_r (congrArg nI (if_neg (hn))) ?_)
  refine lv_if_ne (tgt := 13) hx hb dX7_set_4 (by decide) (fun c4 => ?_) (fun c4 => ?_)
  · exact absurd c4 (by decide)
  · refine lv_aload_n hx hb dX7_set_7 rfl (lv_at hl 0 rfl) ?_
    refine lv_iconst (v := nI 1) hx hb dX7_set_8 (by decide) ?_
    refine m_callVi (As := [.int (nI 1)]) (rest := []) C0 hl hP hD hS (c_X7_fails l D cY mx va vk vr vs vt vc vb rl ik th tl ta yr ys yo yf ye 1 ) (cwV 1 hts gX7_set_X7_fails rfl rfl rfl (by decide +kernel) ⟨Nat.le_of_ble_eq_true rfl, Nat.le_of_ble_eq_true rfl⟩) dX7_set_9 [0] rfl rfl 0 rfl rfl rfl rfl (Nat.le_of_ble_eq_true rfl) (Nat.zero_le _) (Nat.zero_le _) (fun _ => rfl) (fun r4 u H3 locs hw hP hD hS => ?_)
    try dsimp only at hw
    obtain rfl := hw
    have hP : va_P D vwCl [(mx, .inr (7, [.ref va, .ref vk, .ref vr, .int (nI rl), .ref vs, .int (nI ik), .int (nI 1), .ref vt, .int (nI tl), .int (nI ta), .int yr, .int ys, .int yo, .int yf, .int ye, .ref vc, .ref vb]))] H3 := hP
    have hD : va_D A [(mx, .inr (7, [.ref va, .ref vk, .ref vr, .int (nI rl), .ref vs, .int (nI ik), .int (nI 1), .ref vt, .int (nI tl), .int (nI ta), .int yr, .int ys, .int yo, .int yf, .int ye, .ref vc, .ref vb]))] := hD
    subst hQ
    exact m_iret C0 hS dX7_set_12 (u := ()) hP (by first | trivial | rfl | omega)
set_option maxHeartbeats 4000000 in
set_option maxRecDepth 100000 in
theorem c_X7_set_f2 (l : Launch) (D : va_G) (cY : Nat → ClassId) (mx va vk vr vs vt vc vb : Nat) (rl ik th tl ta : Nat) (yr ys yo yf ye : Int32) (k : Nat) (y : Int32) (hk : k < 8) (hn : ¬ m_isN y) : m_Mi l yX7_set wsX7_set 2 45 D cY [.ref mx, .int (nI k), .int y] [(mx, .inr (7, [.ref va, .ref vk, .ref vr, .int (nI rl), .ref vs, .int (nI ik), .int (nI th), .ref vt, .int (nI tl), .int (nI ta), .int yr, .int ys, .int yo, .int yf, .int ye, .ref vc, .ref vb]))] (fun (res : Int32) (u : Unit) => res = nI 0) (fun (u : Unit) => [(mx, .inr (7, [.ref va, .ref vk, .ref vr, .int (nI rl), .ref vs, .int (nI ik), .int (nI 2), .ref vt, .int (nI tl), .int (nI ta), .int yr, .int ys, .int yo, .int yf, .int ye, .ref vc, .ref vb]))]) := by
  refine m_enterI (cc := cX7_set) (maxL := 3) (ret := (some .int)) (by decide +kernel) rfl (Nat.le_of_ble_eq_true rfl) ?_
  intro p e s m below meth c A ls C0 hP hD hl
  obtain ⟨hx, hb, hr, hml, hts, hown, hlocks, hK, hA⟩ := id C0
  generalize hQ : MQ below _ _ s 0 0 A = Q
  have hS : va_S A s.heap s.heap [] := va_S.rf
  have hl : lv_has ls 3 [(0, .ref mx), (1, .int (nI k)), (2, .int y)] := hl
  refine lv_iload_n hx hb dX7_set_0 rfl (lv_at hl 1 rfl) ?_
  refine m_callSi (As := [.int (nI k)]) (rest := []) C0 hl hP hD hS (c_X7_isRegister l D cY (nI k) ) (va_cwS 1 hts gX7_set_X7_isRegister rfl rfl rfl (by decide +kernel) ⟨Nat.le_of_ble_eq_true rfl, Nat.le_of_ble_eq_true rfl⟩) dX7_set_1 [] rfl rfl rfl (Nat.le_of_ble_eq_true rfl) (Nat.zero_le _) (Nat.zero_le _) (fun _ => rfl) (fun r2 u H1 locs hw hP hD hS => ?_)
  try dsimp only at hw
  obtain rfl := hw
  have hP : va_P D vwCl [(mx, .inr (7, [.ref va, .ref vk, .ref vr, .int (nI rl), .ref vs, .int (nI ik), .int (nI th), .ref vt, .int (nI tl), .int (nI ta), .int yr, .int ys, .int yo, .int yf, .int ye, .ref vc, .ref vb]))] H1 := hP
  have hD : va_D A [(mx, .inr (7, [.ref va, .ref vk, .ref vr, .int (nI rl), .ref vs, .int (nI ik), .int (nI th), .ref vt, .int (nI tl), .int (nI ta), .int yr, .int ys, .int yo, .int yf, .int ye, .ref vc, .ref vb]))] := hD
  refine lv_topi (nm_r (congrArg nI (if_pos (m_isR_of hk))) ?_)
  refine lv_if_ne (tgt := 13) hx hb dX7_set_4 (by decide) (fun c4 => ?_) (fun c4 => ?_)
  · refine lv_iload_n hx hb dX7_set_13 rfl (lv_at hl 2 rfl) ?_
    refine m_callSi (As := [.int y]) (rest := []) C0 hl hP hD hS (c_X7_isNimber l D cY y ) (va_cwS 1 hts gX7_set_X7_isNimber rfl rfl rfl (by decide +kernel) ⟨Nat.le_of_ble_eq_true rfl, Nat.le_of_ble_eq_true rfl⟩) dX7_set_14 [] rfl rfl rfl (Nat.le_of_ble_eq_true rfl) (Nat.zero_le _) (Nat.zero_le _) (fun _ => rfl) (fun r4 u H3 locs hw hP hD hS => ?_)
    try dsimp only at hw
    obtain rfl := hw
    have hP : va_P D vwCl [(mx, .inr (7, [.ref va, .ref vk, .ref vr, .int (nI rl), .ref vs, .int (nI ik), .int (nI th), .ref vt, .int (nI tl), .int (nI ta), .int yr, .int ys, .int yo, .int yf, .int ye, .ref vc, .ref vb]))] H3 := hP
    have hD : va_D A [(mx, .inr (7, [.ref va, .ref vk, .ref vr, .int (nI rl), .ref vs, .int (nI ik), .int (nI th), .ref vt, .int (nI tl), .int (nI ta), .int yr, .int ys, .int yo, .int yf, .int ye, .ref vc, .ref vb]))] := hD
    refine lv_topi (nm_r (congrArg nI (if_neg (hn))) ?_)
    refine lv_if_ne (tgt := 26) hx hb dX7_set_17 (by decide) (fun c17 => ?_) (fun c17 => ?_)
    · exact absurd c17 (by decide)
    · refine lv_aload_n hx hb dX7_set_20 rfl (lv_at hl 0 rfl) ?_
      refine lv_iconst (v := nI 2) hx hb dX7_set_21 (by decide) ?_
      refine m_callVi (As := [.int (nI 2)]) (rest := []) C0 hl hP hD hS (c_X7_fails l D cY mx va vk vr vs vt vc vb rl ik th tl ta yr ys yo yf ye 2 ) (cwV 1 hts gX7_set_X7_fails rfl rfl rfl (by decide +kernel) ⟨Nat.le_of_ble_eq_true rfl, Nat.le_of_ble_eq_true rfl⟩) dX7_set_22 [0] rfl rfl 0 rfl rfl rfl rfl (Nat.le_of_ble_eq_true rfl) (Nat.zero_le _) (Nat.zero_le _) (fun _ => rfl) (fun r6 u H5 locs hw hP hD hS => ?_)
      try dsimp only at hw
      obtain rfl := hw
      have hP : va_P D vwCl [(mx, .inr (7, [.ref va, .ref vk, .ref vr, .int (nI rl), .ref vs, .int (nI ik), .int (nI 2), .ref vt, .int (nI tl), .int (nI ta), .int yr, .int ys, .int yo, .int yf, .int ye, .ref vc, .ref vb]))] H5 := hP
      have hD : va_D A [(mx, .inr (7, [.ref va, .ref vk, .ref vr, .int (nI rl), .ref vs, .int (nI ik), .int (nI 2), .ref vt, .int (nI tl), .int (nI ta), .int yr, .int ys, .int yo, .int yf, .int ye, .ref vc, .ref vb]))] := hD
      subst hQ
      exact m_iret C0 hS dX7_set_25 (u := ()) hP (by first | trivial | rfl | omega)
  · exact absurd c4 (by decide)
set_option maxHeartbeats 4000000 in
set_option maxRecDepth 100000 in
theorem c_X7_set_ok (l : Launch) (D : va_G) (cY : Nat → ClassId) (mx va vk vr vs vt vc vb : Nat) (rl ik th tl ta : Nat) (yr ys yo yf ye : Int32) (f : Nat → Nat) (cnt : Nat) (rv : Nat → Nat) (hh : Nat → Nat → Nat) (k v : Nat) (hrl : rl ≤ 4) (hrec : n_rec rl rv hh) (hk : k < 8) (hv : v < 65536) : m_Mi l yX7_set wsX7_set 2 45 D cY [.ref mx, .int (nI k), .int (nI v)] [(mx, .inr (7, [.ref va, .ref vk, .ref vr, .int (nI rl), .ref vs, .int (nI ik), .int (nI th), .ref vt, .int (nI tl), .int (nI ta), .int yr, .int ys, .int yo, .int yf, .int ye, .ref vc, .ref vb])), (va, .inl (cY 0, 9, .inl (m_nf (m_all f cnt)))), (vr, .inl (cY 0, 36, .inl (m_nf rv)))] (fun (res : Int32) (u : (Nat → Nat)) => (res = nI (f k)) ∧ (n_rec (min (rl + 1) 4) u (n_push (m_all f cnt) hh))) (fun (u : (Nat → Nat)) => [(mx, .inr (7, [.ref va, .ref vk, .ref vr, .int (nI (min (rl + 1) 4)), .ref vs, .int (nI ik), .int (nI 0), .ref vt, .int (nI tl), .int (nI ta), .int yr, .int ys, .int yo, .int yf, .int ye, .ref vc, .ref vb])), (va, .inl (cY 0, 9, .inl (m_nf (m_all (m_up f k v) cnt)))), (vr, .inl (cY 0, 36, .inl (m_nf u)))]) := by
  refine m_enterI (cc := cX7_set) (maxL := 3) (ret := (some .int)) (by decide +kernel) rfl (Nat.le_of_ble_eq_true rfl) ?_
  intro p e s m below meth c A ls C0 hP hD hl
  obtain ⟨hx, hb, hr, hml, hts, hown, hlocks, hK, hA⟩ := id C0
  generalize hQ : MQ below _ _ s 0 0 A = Q
  have hS : va_S A s.heap s.heap [] := va_S.rf
  have hl : lv_has ls 3 [(0, .ref mx), (1, .int (nI k)), (2, .int (nI v))] := hl
  refine lv_iload_n hx hb dX7_set_0 rfl (lv_at hl 1 rfl) ?_
  refine m_callSi (As := [.int (nI k)]) (rest := []) C0 hl hP hD hS (c_X7_isRegister l D cY (nI k) ) (va_cwS 1 hts gX7_set_X7_isRegister rfl rfl rfl (by decide +kernel) ⟨Nat.le_of_ble_eq_true rfl, Nat.le_of_ble_eq_true rfl⟩) dX7_set_1 [] rfl rfl rfl (Nat.le_of_ble_eq_true rfl) (Nat.zero_le _) (Nat.zero_le _) (fun _ => rfl) (fun r2 u H1 locs hw hP hD hS => ?_)
  try dsimp only at hw
  obtain rfl := hw
  have hP : va_P D vwCl [(mx, .inr (7, [.ref va, .ref vk, .ref vr, .int (nI rl), .ref vs, .int (nI ik), .int (nI th), .ref vt, .int (nI tl), .int (nI ta), .int yr, .int ys, .int yo, .int yf, .int ye, .ref vc, .ref vb])), (va, .inl (cY 0, 9, .inl (m_nf (m_all f cnt)))), (vr, .inl (cY 0, 36, .inl (m_nf rv)))] H1 := hP
  have hD : va_D A [(mx, .inr (7, [.ref va, .ref vk, .ref vr, .int (nI rl), .ref vs, .int (nI ik), .int (nI th), .ref vt, .int (nI tl), .int (nI ta), .int yr, .int ys, .int yo, .int yf, .int ye, .ref vc, .ref vb])), (va, .inl (cY 0, 9, .inl (m_nf (m_all f cnt)))), (vr, .inl (cY 0, 36, .inl (m_nf rv)))] := hD
  refine lv_topi (nm_r (congrArg nI (if_pos (m_isR_of hk))) ?_)
  refine lv_if_ne (tgt := 13) hx hb dX7_set_4 (by decide) (fun c4 => ?_) (fun c4 => ?_)
  · refine lv_iload_n hx hb dX7_set_13 rfl (lv_at hl 2 rfl) ?_
    refine m_callSi (As := [.int (nI v)]) (rest := []) C0 hl hP hD hS (c_X7_isNimber l D cY (nI v) ) (va_cwS 1 hts gX7_set_X7_isNimber rfl rfl rfl (by decide +kernel) ⟨Nat.le_of_ble_eq_true rfl, Nat.le_of_ble_eq_true rfl⟩) dX7_set_14 [] rfl rfl rfl (Nat.le_of_ble_eq_true rfl) (Nat.zero_le _) (Nat.zero_le _) (fun _ => rfl) (fun r4 u H3 locs hw hP hD hS => ?_)
    try dsimp only at hw
    obtain rfl := hw
    have hP : va_P D vwCl [(mx, .inr (7, [.ref va, .ref vk, .ref vr, .int (nI rl), .ref vs, .int (nI ik), .int (nI th), .ref vt, .int (nI tl), .int (nI ta), .int yr, .int ys, .int yo, .int yf, .int ye, .ref vc, .ref vb])), (va, .inl (cY 0, 9, .inl (m_nf (m_all f cnt)))), (vr, .inl (cY 0, 36, .inl (m_nf rv)))] H3 := hP
    have hD : va_D A [(mx, .inr (7, [.ref va, .ref vk, .ref vr, .int (nI rl), .ref vs, .int (nI ik), .int (nI th), .ref vt, .int (nI tl), .int (nI ta), .int yr, .int ys, .int yo, .int yf, .int ye, .ref vc, .ref vb])), (va, .inl (cY 0, 9, .inl (m_nf (m_all f cnt)))), (vr, .inl (cY 0, 36, .inl (m_nf rv)))] := hD
    refine lv_topi (nm_r (congrArg nI (if_pos (m_isN_of hv))) ?_)
    refine lv_if_ne (tgt := 26) hx hb dX7_set_17 (by decide) (fun c17 => ?_) (fun c17 => ?_)
    · refine lv_aload_n hx hb dX7_set_26 rfl (lv_at hl 0 rfl) ?_
      refine m_callVv (As := []) (rest := []) C0 hl hP hD hS (c_X7_records l D cY mx va vk vr vs vt vc vb rl ik th tl ta yr ys yo yf ye f cnt rv hh (by first | assumption | omega | exact nm_lt _ _ | exact np_lt _ _ | decide) (by first | assumption | omega | exact nm_lt _ _ | exact np_lt _ _ | decide)) (cwV 0 hts gX7_set_X7_records rfl rfl rfl (by decide +kernel) ⟨Nat.le_of_ble_eq_true rfl, Nat.le_of_ble_eq_true rfl⟩) dX7_set_27 [0, 1, 2] rfl rfl 0 rfl rfl rfl rfl (Nat.le_of_ble_eq_true rfl) (Nat.zero_le _) (Nat.zero_le _) (fun _ => rfl) (fun u H5 locs hw hP hD hS => ?_)
      obtain ⟨rv9_6, rfl⟩ : ∃ z, z = u := ⟨_, rfl⟩
      try dsimp only at hw
      have hq7 := hw; clear hw
      have hP : va_P D vwCl [(mx, .inr (7, [.ref va, .ref vk, .ref vr, .int (nI (min (rl + 1) 4)), .ref vs, .int (nI ik), .int (nI 0), .ref vt, .int (nI tl), .int (nI ta), .int yr, .int ys, .int yo, .int yf, .int ye, .ref vc, .ref vb])), (va, .inl (cY 0, 9, .inl (m_nf (m_all f cnt)))), (vr, .inl (cY 0, 36, .inl (m_nf rv9_6)))] H5 := hP
      have hD : va_D A [(mx, .inr (7, [.ref va, .ref vk, .ref vr, .int (nI (min (rl + 1) 4)), .ref vs, .int (nI ik), .int (nI 0), .ref vt, .int (nI tl), .int (nI ta), .int yr, .int ys, .int yo, .int yf, .int ye, .ref vc, .ref vb])), (va, .inl (cY 0, 9, .inl (m_nf (m_all f cnt)))), (vr, .inl (cY 0, 36, .inl (m_nf rv9_6)))] := hD
      refine lv_aload_n hx hb dX7_set_30 rfl (lv_at hl 0 rfl) ?_
      refine lv_iload_n hx hb dX7_set_31 rfl (lv_at hl 1 rfl) ?_
      refine lv_iload_n hx hb dX7_set_32 rfl (lv_at hl 2 rfl) ?_
      refine m_callVi (As := [.int (nI k), .int (nI v)]) (rest := []) C0 hl hP hD hS (c_X7_puts l D cY mx va vk vr vs vt vc vb (min (rl + 1) 4) ik 0 tl ta yr ys yo yf ye f cnt k v (by first | assumption | omega | exact nm_lt _ _ | exact np_lt _ _ | decide)) (cwV 2 hts gX7_set_X7_puts rfl rfl rfl (by decide +kernel) ⟨Nat.le_of_ble_eq_true rfl, Nat.le_of_ble_eq_true rfl⟩) dX7_set_33 [0, 1] rfl rfl 0 rfl rfl rfl rfl (Nat.le_of_ble_eq_true rfl) (Nat.zero_le _) (Nat.zero_le _) (fun _ => rfl) (fun r9 u H8 locs hw hP hD hS => ?_)
      try dsimp only at hw
      obtain rfl := hw
      have hP : va_P D vwCl [(mx, .inr (7, [.ref va, .ref vk, .ref vr, .int (nI (min (rl + 1) 4)), .ref vs, .int (nI ik), .int (nI 0), .ref vt, .int (nI tl), .int (nI ta), .int yr, .int ys, .int yo, .int yf, .int ye, .ref vc, .ref vb])), (va, .inl (cY 0, 9, .inl (m_nf (m_all (m_up f k v) cnt)))), (vr, .inl (cY 0, 36, .inl (m_nf rv9_6)))] H8 := hP
      have hD : va_D A [(mx, .inr (7, [.ref va, .ref vk, .ref vr, .int (nI (min (rl + 1) 4)), .ref vs, .int (nI ik), .int (nI 0), .ref vt, .int (nI tl), .int (nI ta), .int yr, .int ys, .int yo, .int yf, .int ye, .ref vc, .ref vb])), (va, .inl (cY 0, 9, .inl (m_nf (m_all (m_up f k v) cnt)))), (vr, .inl (cY 0, 36, .inl (m_nf rv9_6)))] := hD
      subst hQ
      exact m_iret C0 hS dX7_set_36 (u := rv9_6) hP (⟨rfl, hq7⟩)
    · exact absurd c17 (by decide)
  · exact absurd c4 (by decide)
set_option maxHeartbeats 4000000 in
set_option maxRecDepth 100000 in
theorem c_X7_invert_f1 (l : Launch) (D : va_G) (cY : Nat → ClassId) (mx va vk vr vs vt vc vb : Nat) (rl ik th tl ta : Nat) (yr ys yo yf ye : Int32) (x : Int32) (hn : ¬ m_isR x) : m_Mi l yX7_invert wsX7_invert 2 45 D cY [.ref mx, .int x] [(mx, .inr (7, [.ref va, .ref vk, .ref vr, .int (nI rl), .ref vs, .int (nI ik), .int (nI th), .ref vt, .int (nI tl), .int (nI ta), .int yr, .int ys, .int yo, .int yf, .int ye, .ref vc, .ref vb]))] (fun (res : Int32) (u : Unit) => res = nI 0) (fun (u : Unit) => [(mx, .inr (7, [.ref va, .ref vk, .ref vr, .int (nI rl), .ref vs, .int (nI ik), .int (nI 1), .ref vt, .int (nI tl), .int (nI ta), .int yr, .int ys, .int yo, .int yf, .int ye, .ref vc, .ref vb]))]) := by
  refine m_enterI (cc := cX7_invert) (maxL := 2) (ret := (some .int)) (by decide +kernel) rfl (Nat.le_of_ble_eq_true rfl) ?_
  intro p e s m below meth c A ls C0 hP hD hl
  obtain ⟨hx, hb, hr, hml, hts, hown, hlocks, hK, hA⟩ := id C0
  generalize hQ : MQ below _ _ s 0 0 A = Q
  have hS : va_S A s.heap s.heap [] := va_S.rf
  have hl : lv_has ls 2 [(0, .ref mx), (1, .int x)] := hl
  refine lv_iload_n hx hb dX7_invert_0 rfl (lv_at hl 1 rfl) ?_
  refine m_callSi (As := [.int x]) (rest := []) C0 hl hP hD hS (c_X7_isRegister l D cY x ) (va_cwS 1 hts gX7_invert_X7_isRegister rfl rfl rfl (by decide +kernel) ⟨Nat.le_of_ble_eq_true rfl, Nat.le_of_ble_eq_true rfl⟩) dX7_invert_1 [] rfl rfl rfl (Nat.le_of_ble_eq_true rfl) (Nat.zero_le _) (Nat.zero_le _) (fun _ => rfl) (fun r2 u H1 locs hw hP hD hS => ?_)
  try dsimp only at hw
  obtain rfl := hw
  have hP : va_P D vwCl [(mx, .inr (7, [.ref va, .ref vk, .ref vr, .int (nI rl), .ref vs, .int (nI ik), .int (nI th), .ref vt, .int (nI tl), .int (nI ta), .int yr, .int ys, .int yo, .int yf, .int ye, .ref vc, .ref vb]))] H1 := hP
  have hD : va_D A [(mx, .inr (7, [.ref va, .ref vk, .ref vr, .int (nI rl), .ref vs, .int (nI ik), .int (nI th), .ref vt, .int (nI tl), .int (nI ta), .int yr, .int ys, .int yo, .int yf, .int ye, .ref vc, .ref vb]))] := hD
  refine lv_topi (nm_r (congrArg nI (if_neg (hn))) ?_)
  refine lv_if_ne (tgt := 13) hx hb dX7_invert_4 (by decide) (fun c4 => ?_) (fun c4 => ?_)
  · exact absurd c4 (by decide)
  · refine lv_aload_n hx hb dX7_invert_7 rfl (lv_at hl 0 rfl) ?_
    refine lv_iconst (v := nI 1) hx hb dX7_invert_8 (by decide) ?_
    refine m_callVi (As := [.int (nI 1)]) (rest := []) C0 hl hP hD hS (c_X7_fails l D cY mx va vk vr vs vt vc vb rl ik th tl ta yr ys yo yf ye 1 ) (cwV 1 hts gX7_invert_X7_fails rfl rfl rfl (by decide +kernel) ⟨Nat.le_of_ble_eq_true rfl, Nat.le_of_ble_eq_true rfl⟩) dX7_invert_9 [0] rfl rfl 0 rfl rfl rfl rfl (Nat.le_of_ble_eq_true rfl) (Nat.zero_le _) (Nat.zero_le _) (fun _ => rfl) (fun r4 u H3 locs hw hP hD hS => ?_)
    try dsimp only at hw
    obtain rfl := hw
    have hP : va_P D vwCl [(mx, .inr (7, [.ref va, .ref vk, .ref vr, .int (nI rl), .ref vs, .int (nI ik), .int (nI 1), .ref vt, .int (nI tl), .int (nI ta), .int yr, .int ys, .int yo, .int yf, .int ye, .ref vc, .ref vb]))] H3 := hP
    have hD : va_D A [(mx, .inr (7, [.ref va, .ref vk, .ref vr, .int (nI rl), .ref vs, .int (nI ik), .int (nI 1), .ref vt, .int (nI tl), .int (nI ta), .int yr, .int ys, .int yo, .int yf, .int ye, .ref vc, .ref vb]))] := hD
    subst hQ
    exact m_iret C0 hS dX7_invert_12 (u := ()) hP (by first | trivial | rfl | omega)
set_option maxHeartbeats 4000000 in
set_option maxRecDepth 100000 in
theorem c_X7_invert_f2 (l : Launch) (D : va_G) (cY : Nat → ClassId) (mx va vk vr vs vt vc vb : Nat) (rl ik th tl ta : Nat) (yr ys yo yf ye : Int32) (f : Nat → Nat) (cnt : Nat) (k : Nat) (hk : k < 8) (hz : f k = 0) (hf8 : m_z 8 f) (hf16 : ∀ j, f j < 65536) : m_Mi l yX7_invert wsX7_invert 2 45 D cY [.ref mx, .int (nI k)] [(mx, .inr (7, [.ref va, .ref vk, .ref vr, .int (nI rl), .ref vs, .int (nI ik), .int (nI th), .ref vt, .int (nI tl), .int (nI ta), .int yr, .int ys, .int yo, .int yf, .int ye, .ref vc, .ref vb])), (va, .inl (cY 0, 9, .inl (m_nf (m_all f cnt))))] (fun (res : Int32) (u : Unit) => res = nI 0) (fun (u : Unit) => [(mx, .inr (7, [.ref va, .ref vk, .ref vr, .int (nI rl), .ref vs, .int (nI ik), .int (nI 2), .ref vt, .int (nI tl), .int (nI ta), .int yr, .int ys, .int yo, .int yf, .int ye, .ref vc, .ref vb])), (va, .inl (cY 0, 9, .inl (m_nf (m_all f cnt))))]) := by
  refine m_enterI (cc := cX7_invert) (maxL := 2) (ret := (some .int)) (by decide +kernel) rfl (Nat.le_of_ble_eq_true rfl) ?_
  intro p e s m below meth c A ls C0 hP hD hl
  obtain ⟨hx, hb, hr, hml, hts, hown, hlocks, hK, hA⟩ := id C0
  generalize hQ : MQ below _ _ s 0 0 A = Q
  have hS : va_S A s.heap s.heap [] := va_S.rf
  have hl : lv_has ls 2 [(0, .ref mx), (1, .int (nI k))] := hl
  have hwd0 := hts (.fieldLink RX7 7 "NimberFieldModel" "all" "[I") (by decide +kernel)
  have hwd1 := (show ∀ w ∈ u_ws RX7 TX7 17, w ∈ wsX7_invert from by decide +kernel)
  have hfk := hf16 k
  refine lv_iload_n hx hb dX7_invert_0 rfl (lv_at hl 1 rfl) ?_
  refine m_callSi (As := [.int (nI k)]) (rest := []) C0 hl hP hD hS (c_X7_isRegister l D cY (nI k) ) (va_cwS 1 hts gX7_invert_X7_isRegister rfl rfl rfl (by decide +kernel) ⟨Nat.le_of_ble_eq_true rfl, Nat.le_of_ble_eq_true rfl⟩) dX7_invert_1 [] rfl rfl rfl (Nat.le_of_ble_eq_true rfl) (Nat.zero_le _) (Nat.zero_le _) (fun _ => rfl) (fun r2 u H1 locs hw hP hD hS => ?_)
  try dsimp only at hw
  obtain rfl := hw
  have hP : va_P D vwCl [(mx, .inr (7, [.ref va, .ref vk, .ref vr, .int (nI rl), .ref vs, .int (nI ik), .int (nI th), .ref vt, .int (nI tl), .int (nI ta), .int yr, .int ys, .int yo, .int yf, .int ye, .ref vc, .ref vb])), (va, .inl (cY 0, 9, .inl (m_nf (m_all f cnt))))] H1 := hP
  have hD : va_D A [(mx, .inr (7, [.ref va, .ref vk, .ref vr, .int (nI rl), .ref vs, .int (nI ik), .int (nI th), .ref vt, .int (nI tl), .int (nI ta), .int yr, .int ys, .int yo, .int yf, .int ye, .ref vc, .ref vb])), (va, .inl (cY 0, 9, .inl (m_nf (m_all f cnt))))] := hD
  refine lv_topi (nm_r (congrArg nI (if_pos (m_isR_of hk))) ?_)
  refine lv_if_ne (tgt := 13) hx hb dX7_invert_4 (by decide) (fun c4 => ?_) (fun c4 => ?_)
  · refine lv_aload_n hx hb dX7_invert_13 rfl (lv_at hl 0 rfl) ?_
    refine va_get (D := D) (ci := 7) (v := .ref va) (C := RX7) (T := TX7) (N := 17) hx hb hts hwd1 hown hK hP 0 rfl rfl 0 (by decide) hwd0 (fun _ h9 => h9) rfl dX7_invert_14 ?_
    refine lv_iload_n hx hb dX7_invert_17 rfl (lv_at hl 1 rfl) ?_
    refine va_iald hx hb hK hP 1 0 rfl rfl (m_in (n := k) (by first | assumption | omega) (by decide)) dX7_invert_18 ?_
    refine lv_topi (nm_r (m_ldn (g := m_all f cnt) (n := k) (by omega)) ?_)
    refine lv_topi (nm_r (congrArg nI (m_all_lt f cnt hk)) ?_)
    refine lv_if_ne (tgt := 28) hx hb dX7_invert_19 (by decide) (fun c19 => ?_) (fun c19 => ?_)
    · have c19 : ¬ ((f k) = 0) := fun qq9 => c19 ((nI_eq (a := (f k)) (b := 0) (by first | omega | exact Nat.lt_of_le_of_lt Nat.and_le_right (by decide) | exact Nat.lt_trans (nm_lt _ _) (by decide) | exact Nat.lt_trans (np_lt _ _) (by decide) | exact Nat.lt_trans (p_at_lt htx) (by decide)) (by first | omega | exact Nat.lt_of_le_of_lt Nat.and_le_right (by decide) | exact Nat.lt_trans (nm_lt _ _) (by decide) | exact Nat.lt_trans (np_lt _ _) (by decide) | exact Nat.lt_trans (p_at_lt htx) (by decide))).mpr qq9)
      exfalso; omega
    · have c19 : (f k) = 0 := (nI_eq (a := (f k)) (b := 0) (by first | omega | exact Nat.lt_of_le_of_lt Nat.and_le_right (by decide) | exact Nat.lt_trans (nm_lt _ _) (by decide) | exact Nat.lt_trans (np_lt _ _) (by decide) | exact Nat.lt_trans (p_at_lt htx) (by decide)) (by first | omega | exact Nat.lt_of_le_of_lt Nat.and_le_right (by decide) | exact Nat.lt_trans (nm_lt _ _) (by decide) | exact Nat.lt_trans (np_lt _ _) (by decide) | exact Nat.lt_trans (p_at_lt htx) (by decide))).mp c19
      refine lv_aload_n hx hb dX7_invert_22 rfl (lv_at hl 0 rfl) ?_
      refine lv_iconst (v := nI 2) hx hb dX7_invert_23 (by decide) ?_
      refine m_callVi (As := [.int (nI 2)]) (rest := []) C0 hl hP hD hS (c_X7_fails l D cY mx va vk vr vs vt vc vb rl ik th tl ta yr ys yo yf ye 2 ) (cwV 1 hts gX7_invert_X7_fails rfl rfl rfl (by decide +kernel) ⟨Nat.le_of_ble_eq_true rfl, Nat.le_of_ble_eq_true rfl⟩) dX7_invert_24 [0] rfl rfl 0 rfl rfl rfl rfl (Nat.le_of_ble_eq_true rfl) (Nat.zero_le _) (Nat.zero_le _) (fun _ => rfl) (fun r4 u H3 locs hw hP hD hS => ?_)
      try dsimp only at hw
      obtain rfl := hw
      have hP : va_P D vwCl [(mx, .inr (7, [.ref va, .ref vk, .ref vr, .int (nI rl), .ref vs, .int (nI ik), .int (nI 2), .ref vt, .int (nI tl), .int (nI ta), .int yr, .int ys, .int yo, .int yf, .int ye, .ref vc, .ref vb])), (va, .inl (cY 0, 9, .inl (m_nf (m_all f cnt))))] H3 := hP
      have hD : va_D A [(mx, .inr (7, [.ref va, .ref vk, .ref vr, .int (nI rl), .ref vs, .int (nI ik), .int (nI 2), .ref vt, .int (nI tl), .int (nI ta), .int yr, .int ys, .int yo, .int yf, .int ye, .ref vc, .ref vb])), (va, .inl (cY 0, 9, .inl (m_nf (m_all f cnt))))] := hD
      subst hQ
      exact m_iret C0 hS dX7_invert_27 (u := ()) hP (by first | trivial | rfl | omega)
  · exact absurd c4 (by decide)
set_option maxHeartbeats 4000000 in
set_option maxRecDepth 100000 in
theorem c_X7_invert_ok (l : Launch) (D : va_G) (cY : Nat → ClassId) (mx va vk vr vs vt vc vb : Nat) (rl ik th tl ta : Nat) (yr ys yo yf ye : Int32) (f : Nat → Nat) (cnt : Nat) (rv : Nat → Nat) (hh : Nat → Nat → Nat) (k : Nat) (hrl : rl ≤ 4) (hrec : n_rec rl rv hh) (hf8 : m_z 8 f) (hf16 : ∀ j, f j < 65536) (hk : k < 8) (hz : ¬ f k = 0) : m_Mi l yX7_invert wsX7_invert 6 140 D cY [.ref mx, .int (nI k)] [(mx, .inr (7, [.ref va, .ref vk, .ref vr, .int (nI rl), .ref vs, .int (nI ik), .int (nI th), .ref vt, .int (nI tl), .int (nI ta), .int yr, .int ys, .int yo, .int yf, .int ye, .ref vc, .ref vb])), (va, .inl (cY 0, 9, .inl (m_nf (m_all f cnt)))), (vr, .inl (cY 0, 36, .inl (m_nf rv)))] (fun (res : Int32) (u : (Nat → Nat)) => (res = nI (np (f k) 65534)) ∧ (n_rec (min (rl + 1) 4) u (n_push (m_all f cnt) hh))) (fun (u : (Nat → Nat)) => [(mx, .inr (7, [.ref va, .ref vk, .ref vr, .int (nI (min (rl + 1) 4)), .ref vs, .int (nI ik), .int (nI 0), .ref vt, .int (nI tl), .int (nI ta), .int yr, .int ys, .int yo, .int yf, .int ye, .ref vc, .ref vb])), (va, .inl (cY 0, 9, .inl (m_nf (m_all (m_up f k (np (f k) 65534)) cnt)))), (vr, .inl (cY 0, 36, .inl (m_nf u)))]) := by
  refine m_enterI (cc := cX7_invert) (maxL := 2) (ret := (some .int)) (by decide +kernel) rfl (Nat.le_of_ble_eq_true rfl) ?_
  intro p e s m below meth c A ls C0 hP hD hl
  obtain ⟨hx, hb, hr, hml, hts, hown, hlocks, hK, hA⟩ := id C0
  generalize hQ : MQ below _ _ s 0 0 A = Q
  have hS : va_S A s.heap s.heap [] := va_S.rf
  have hl : lv_has ls 2 [(0, .ref mx), (1, .int (nI k))] := hl
  have hwd0 := hts (.fieldLink RX7 7 "NimberFieldModel" "all" "[I") (by decide +kernel)
  have hwd1 := (show ∀ w ∈ u_ws RX7 TX7 17, w ∈ wsX7_invert from by decide +kernel)
  have hfk := hf16 k
  refine lv_iload_n hx hb dX7_invert_0 rfl (lv_at hl 1 rfl) ?_
  refine m_callSi (As := [.int (nI k)]) (rest := []) C0 hl hP hD hS (c_X7_isRegister l D cY (nI k) ) (va_cwS 1 hts gX7_invert_X7_isRegister rfl rfl rfl (by decide +kernel) ⟨Nat.le_of_ble_eq_true rfl, Nat.le_of_ble_eq_true rfl⟩) dX7_invert_1 [] rfl rfl rfl (Nat.le_of_ble_eq_true rfl) (Nat.zero_le _) (Nat.zero_le _) (fun _ => rfl) (fun r2 u H1 locs hw hP hD hS => ?_)
  try dsimp only at hw
  obtain rfl := hw
  have hP : va_P D vwCl [(mx, .inr (7, [.ref va, .ref vk, .ref vr, .int (nI rl), .ref vs, .int (nI ik), .int (nI th), .ref vt, .int (nI tl), .int (nI ta), .int yr, .int ys, .int yo, .int yf, .int ye, .ref vc, .ref vb])), (va, .inl (cY 0, 9, .inl (m_nf (m_all f cnt)))), (vr, .inl (cY 0, 36, .inl (m_nf rv)))] H1 := hP
  have hD : va_D A [(mx, .inr (7, [.ref va, .ref vk, .ref vr, .int (nI rl), .ref vs, .int (nI ik), .int (nI th), .ref vt, .int (nI tl), .int (nI ta), .int yr, .int ys, .int yo, .int yf, .int ye, .ref vc, .ref vb])), (va, .inl (cY 0, 9, .inl (m_nf (m_all f cnt)))), (vr, .inl (cY 0, 36, .inl (m_nf rv)))] := hD
  refine lv_topi (nm_r (congrArg nI (if_pos (m_isR_of hk))) ?_)
  refine lv_if_ne (tgt := 13) hx hb dX7_invert_4 (by decide) (fun c4 => ?_) (fun c4 => ?_)
  · refine lv_aload_n hx hb dX7_invert_13 rfl (lv_at hl 0 rfl) ?_
    refine va_get (D := D) (ci := 7) (v := .ref va) (C := RX7) (T := TX7) (N := 17) hx hb hts hwd1 hown hK hP 0 rfl rfl 0 (by decide) hwd0 (fun _ h9 => h9) rfl dX7_invert_14 ?_
    refine lv_iload_n hx hb dX7_invert_17 rfl (lv_at hl 1 rfl) ?_
    refine va_iald hx hb hK hP 1 0 rfl rfl (m_in (n := k) (by first | assumption | omega) (by decide)) dX7_invert_18 ?_
    refine lv_topi (nm_r (m_ldn (g := m_all f cnt) (n := k) (by omega)) ?_)
    refine lv_topi (nm_r (congrArg nI (m_all_lt f cnt hk)) ?_)
    refine lv_if_ne (tgt := 28) hx hb dX7_invert_19 (by decide) (fun c19 => ?_) (fun c19 => ?_)
    · have c19 : ¬ ((f k) = 0) := fun qq9 => c19 ((nI_eq (a := (f k)) (b := 0) (by first | omega | exact Nat.lt_of_le_of_lt Nat.and_le_right (by decide) | exact Nat.lt_trans (nm_lt _ _) (by decide) | exact Nat.lt_trans (np_lt _ _) (by decide) | exact Nat.lt_trans (p_at_lt htx) (by decide)) (by first | omega | exact Nat.lt_of_le_of_lt Nat.and_le_right (by decide) | exact Nat.lt_trans (nm_lt _ _) (by decide) | exact Nat.lt_trans (np_lt _ _) (by decide) | exact Nat.lt_trans (p_at_lt htx) (by decide))).mpr qq9)
      refine lv_aload_n hx hb dX7_invert_28 rfl (lv_at hl 0 rfl) ?_
      refine m_callVv (As := []) (rest := []) C0 hl hP hD hS (c_X7_records l D cY mx va vk vr vs vt vc vb rl ik th tl ta yr ys yo yf ye f cnt rv hh (by first | assumption | omega | exact nm_lt _ _ | exact np_lt _ _ | decide) (by first | assumption | omega | exact nm_lt _ _ | exact np_lt _ _ | decide)) (cwV 0 hts gX7_invert_X7_records rfl rfl rfl (by decide +kernel) ⟨Nat.le_of_ble_eq_true rfl, Nat.le_of_ble_eq_true rfl⟩) dX7_invert_29 [0, 1, 2] rfl rfl 0 rfl rfl rfl rfl (Nat.le_of_ble_eq_true rfl) (Nat.zero_le _) (Nat.zero_le _) (fun _ => rfl) (fun u H3 locs hw hP hD hS => ?_)
      obtain ⟨rv9_4, rfl⟩ : ∃ z, z = u := ⟨_, rfl⟩
      try dsimp only at hw
      have hq5 := hw; clear hw
      have hP : va_P D vwCl [(mx, .inr (7, [.ref va, .ref vk, .ref vr, .int (nI (min (rl + 1) 4)), .ref vs, .int (nI ik), .int (nI 0), .ref vt, .int (nI tl), .int (nI ta), .int yr, .int ys, .int yo, .int yf, .int ye, .ref vc, .ref vb])), (va, .inl (cY 0, 9, .inl (m_nf (m_all f cnt)))), (vr, .inl (cY 0, 36, .inl (m_nf rv9_4)))] H3 := hP
      have hD : va_D A [(mx, .inr (7, [.ref va, .ref vk, .ref vr, .int (nI (min (rl + 1) 4)), .ref vs, .int (nI ik), .int (nI 0), .ref vt, .int (nI tl), .int (nI ta), .int yr, .int ys, .int yo, .int yf, .int ye, .ref vc, .ref vb])), (va, .inl (cY 0, 9, .inl (m_nf (m_all f cnt)))), (vr, .inl (cY 0, 36, .inl (m_nf rv9_4)))] := hD
      refine lv_aload_n hx hb dX7_invert_32 rfl (lv_at hl 0 rfl) ?_
      refine va_get (D := D) (ci := 7) (v := .ref va) (C := RX7) (T := TX7) (N := 17) hx hb hts hwd1 hown hK hP 0 rfl rfl 0 (by decide) hwd0 (fun _ h9 => h9) rfl dX7_invert_33 ?_
      refine lv_iload_n hx hb dX7_invert_36 rfl (lv_at hl 1 rfl) ?_
      refine lv_aload_n hx hb dX7_invert_37 rfl (lv_at hl 0 rfl) ?_
      refine va_get (D := D) (ci := 7) (v := .ref va) (C := RX7) (T := TX7) (N := 17) hx hb hts hwd1 hown hK hP 0 rfl rfl 0 (by decide) hwd0 (fun _ h9 => h9) rfl dX7_invert_38 ?_
      refine lv_iload_n hx hb dX7_invert_41 rfl (lv_at hl 1 rfl) ?_
      refine va_iald hx hb hK hP 1 0 rfl rfl (m_in (n := k) (by first | assumption | omega) (by decide)) dX7_invert_42 ?_
      refine lv_topi (nm_r (m_ldn (g := m_all f cnt) (n := k) (by omega)) ?_)
      refine lv_topi (nm_r (congrArg nI (m_all_lt f cnt hk)) ?_)
      refine m_callSi (As := [.int (nI (f k))]) (rest := [.int (nI k), .ref va]) C0 hl hP hD hS (c_X7_inverted l D cY (f k) (hf16 k)) (va_cwS 1 hts gX7_invert_X7_inverted rfl rfl rfl (by decide +kernel) ⟨Nat.le_of_ble_eq_true rfl, Nat.le_of_ble_eq_true rfl⟩) dX7_invert_43 [] rfl rfl rfl (Nat.le_of_ble_eq_true rfl) (Nat.zero_le _) (Nat.zero_le _) (fun _ => rfl) (fun r7 u H6 locs hw hP hD hS => ?_)
      try dsimp only at hw
      obtain rfl := hw
      have hP : va_P D vwCl [(mx, .inr (7, [.ref va, .ref vk, .ref vr, .int (nI (min (rl + 1) 4)), .ref vs, .int (nI ik), .int (nI 0), .ref vt, .int (nI tl), .int (nI ta), .int yr, .int ys, .int yo, .int yf, .int ye, .ref vc, .ref vb])), (va, .inl (cY 0, 9, .inl (m_nf (m_all f cnt)))), (vr, .inl (cY 0, 36, .inl (m_nf rv9_4)))] H6 := hP
      have hD : va_D A [(mx, .inr (7, [.ref va, .ref vk, .ref vr, .int (nI (min (rl + 1) 4)), .ref vs, .int (nI ik), .int (nI 0), .ref vt, .int (nI tl), .int (nI ta), .int yr, .int ys, .int yo, .int yf, .int ye, .ref vc, .ref vb])), (va, .inl (cY 0, 9, .inl (m_nf (m_all f cnt)))), (vr, .inl (cY 0, 36, .inl (m_nf rv9_4)))] := hD
      refine va_iast hx hb hK hP hD hS 1 0 rfl rfl (m_in (n := k) (by first | assumption | omega) (by decide)) dX7_invert_46 (fun H8 locs hP hD hS => ?_)
      have hP : va_P D vwCl [(mx, .inr (7, [.ref va, .ref vk, .ref vr, .int (nI (min (rl + 1) 4)), .ref vs, .int (nI ik), .int (nI 0), .ref vt, .int (nI tl), .int (nI ta), .int yr, .int ys, .int yo, .int yf, .int ye, .ref vc, .ref vb])), (va, .inl (cY 0, 9, .inl (upd (m_nf (m_all f cnt)) (nI k).toNatClampNeg (nI (np (f k) 65534))))), (vr, .inl (cY 0, 36, .inl (m_nf rv9_4)))] H8 := hP
      have hD : va_D A [(mx, .inr (7, [.ref va, .ref vk, .ref vr, .int (nI (min (rl + 1) 4)), .ref vs, .int (nI ik), .int (nI 0), .ref vt, .int (nI tl), .int (nI ta), .int yr, .int ys, .int yo, .int yf, .int ye, .ref vc, .ref vb])), (va, .inl (cY 0, 9, .inl (upd (m_nf (m_all f cnt)) (nI k).toNatClampNeg (nI (np (f k) 65534))))), (vr, .inl (cY 0, 36, .inl (m_nf rv9_4)))] := hD
      rw [m_upd (g := m_all f cnt) (n := k) (v := np (f k) 65534) (by omega)] at hP hD
      have hP : va_P D vwCl [(mx, .inr (7, [.ref va, .ref vk, .ref vr, .int (nI (min (rl + 1) 4)), .ref vs, .int (nI ik), .int (nI 0), .ref vt, .int (nI tl), .int (nI ta), .int yr, .int ys, .int yo, .int yf, .int ye, .ref vc, .ref vb])), (va, .inl (cY 0, 9, .inl (m_nf (m_up (m_all f cnt) k (np (f k) 65534))))), (vr, .inl (cY 0, 36, .inl (m_nf rv9_4)))] H8 := hP
      have hD : va_D A [(mx, .inr (7, [.ref va, .ref vk, .ref vr, .int (nI (min (rl + 1) 4)), .ref vs, .int (nI ik), .int (nI 0), .ref vt, .int (nI tl), .int (nI ta), .int yr, .int ys, .int yo, .int yf, .int ye, .ref vc, .ref vb])), (va, .inl (cY 0, 9, .inl (m_nf (m_up (m_all f cnt) k (np (f k) 65534))))), (vr, .inl (cY 0, 36, .inl (m_nf rv9_4)))] := hD
      rw [show m_nf (m_up (m_all f cnt) k (np (f k) 65534)) = m_nf (m_all (m_up f k (np (f k) 65534)) cnt) from congrArg m_nf (m_all_up hk)] at hP hD
      have hP : va_P D vwCl [(mx, .inr (7, [.ref va, .ref vk, .ref vr, .int (nI (min (rl + 1) 4)), .ref vs, .int (nI ik), .int (nI 0), .ref vt, .int (nI tl), .int (nI ta), .int yr, .int ys, .int yo, .int yf, .int ye, .ref vc, .ref vb])), (va, .inl (cY 0, 9, .inl (m_nf (m_all (m_up f k (np (f k) 65534)) cnt)))), (vr, .inl (cY 0, 36, .inl (m_nf rv9_4)))] H8 := hP
      have hD : va_D A [(mx, .inr (7, [.ref va, .ref vk, .ref vr, .int (nI (min (rl + 1) 4)), .ref vs, .int (nI ik), .int (nI 0), .ref vt, .int (nI tl), .int (nI ta), .int yr, .int ys, .int yo, .int yf, .int ye, .ref vc, .ref vb])), (va, .inl (cY 0, 9, .inl (m_nf (m_all (m_up f k (np (f k) 65534)) cnt)))), (vr, .inl (cY 0, 36, .inl (m_nf rv9_4)))] := hD
      refine lv_aload_n hx hb dX7_invert_47 rfl (lv_at hl 0 rfl) ?_
      refine va_get (D := D) (ci := 7) (v := .ref va) (C := RX7) (T := TX7) (N := 17) hx hb hts hwd1 hown hK hP 0 rfl rfl 0 (by decide) hwd0 (fun _ h9 => h9) rfl dX7_invert_48 ?_
      refine lv_iload_n hx hb dX7_invert_51 rfl (lv_at hl 1 rfl) ?_
      refine va_iald hx hb hK hP 1 0 rfl rfl (m_in (n := k) (by first | assumption | omega) (by decide)) dX7_invert_52 ?_
      refine lv_topi (nm_r (m_ldn (g := m_all (m_up f k (np (f k) 65534)) cnt) (n := k) (by omega)) ?_)
      refine lv_topi (nm_r (congrArg nI ((m_all_lt _ _ hk).trans (m_ups f k (np (f k) 65534)))) ?_)
      subst hQ
      exact m_iret C0 hS dX7_invert_53 (u := rv9_4) hP (⟨rfl, hq5⟩)
    · have c19 : (f k) = 0 := (nI_eq (a := (f k)) (b := 0) (by first | omega | exact Nat.lt_of_le_of_lt Nat.and_le_right (by decide) | exact Nat.lt_trans (nm_lt _ _) (by decide) | exact Nat.lt_trans (np_lt _ _) (by decide) | exact Nat.lt_trans (p_at_lt htx) (by decide)) (by first | omega | exact Nat.lt_of_le_of_lt Nat.and_le_right (by decide) | exact Nat.lt_trans (nm_lt _ _) (by decide) | exact Nat.lt_trans (np_lt _ _) (by decide) | exact Nat.lt_trans (p_at_lt htx) (by decide))).mp c19
      exfalso; omega
  · exact absurd c4 (by decide)
set_option maxHeartbeats 4000000 in
set_option maxRecDepth 100000 in
theorem c_X7_takeRoot_f1 (l : Launch) (D : va_G) (cY : Nat → ClassId) (mx va vk vr vs vt vc vb : Nat) (rl ik th tl ta : Nat) (yr ys yo yf ye : Int32) (x : Int32) (hn : ¬ m_isR x) : m_Mi l yX7_takeRoot wsX7_takeRoot 2 45 D cY [.ref mx, .int x] [(mx, .inr (7, [.ref va, .ref vk, .ref vr, .int (nI rl), .ref vs, .int (nI ik), .int (nI th), .ref vt, .int (nI tl), .int (nI ta), .int yr, .int ys, .int yo, .int yf, .int ye, .ref vc, .ref vb]))] (fun (res : Int32) (u : Unit) => res = nI 0) (fun (u : Unit) => [(mx, .inr (7, [.ref va, .ref vk, .ref vr, .int (nI rl), .ref vs, .int (nI ik), .int (nI 1), .ref vt, .int (nI tl), .int (nI ta), .int yr, .int ys, .int yo, .int yf, .int ye, .ref vc, .ref vb]))]) := by
  refine m_enterI (cc := cX7_takeRoot) (maxL := 2) (ret := (some .int)) (by decide +kernel) rfl (Nat.le_of_ble_eq_true rfl) ?_
  intro p e s m below meth c A ls C0 hP hD hl
  obtain ⟨hx, hb, hr, hml, hts, hown, hlocks, hK, hA⟩ := id C0
  generalize hQ : MQ below _ _ s 0 0 A = Q
  have hS : va_S A s.heap s.heap [] := va_S.rf
  have hl : lv_has ls 2 [(0, .ref mx), (1, .int x)] := hl
  refine lv_iload_n hx hb dX7_takeRoot_0 rfl (lv_at hl 1 rfl) ?_
  refine m_callSi (As := [.int x]) (rest := []) C0 hl hP hD hS (c_X7_isRegister l D cY x ) (va_cwS 1 hts gX7_takeRoot_X7_isRegister rfl rfl rfl (by decide +kernel) ⟨Nat.le_of_ble_eq_true rfl, Nat.le_of_ble_eq_true rfl⟩) dX7_takeRoot_1 [] rfl rfl rfl (Nat.le_of_ble_eq_true rfl) (Nat.zero_le _) (Nat.zero_le _) (fun _ => rfl) (fun r2 u H1 locs hw hP hD hS => ?_)
  try dsimp only at hw
  obtain rfl := hw
  have hP : va_P D vwCl [(mx, .inr (7, [.ref va, .ref vk, .ref vr, .int (nI rl), .ref vs, .int (nI ik), .int (nI th), .ref vt, .int (nI tl), .int (nI ta), .int yr, .int ys, .int yo, .int yf, .int ye, .ref vc, .ref vb]))] H1 := hP
  have hD : va_D A [(mx, .inr (7, [.ref va, .ref vk, .ref vr, .int (nI rl), .ref vs, .int (nI ik), .int (nI th), .ref vt, .int (nI tl), .int (nI ta), .int yr, .int ys, .int yo, .int yf, .int ye, .ref vc, .ref vb]))] := hD
  refine lv_topi (nm_r (congrArg nI (if_neg (hn))) ?_)
  refine lv_if_ne (tgt := 13) hx hb dX7_takeRoot_4 (by decide) (fun c4 => ?_) (fun c4 => ?_)
  · exact absurd c4 (by decide)
  · refine lv_aload_n hx hb dX7_takeRoot_7 rfl (lv_at hl 0 rfl) ?_
    refine lv_iconst (v := nI 1) hx hb dX7_takeRoot_8 (by decide) ?_
    refine m_callVi (As := [.int (nI 1)]) (rest := []) C0 hl hP hD hS (c_X7_fails l D cY mx va vk vr vs vt vc vb rl ik th tl ta yr ys yo yf ye 1 ) (cwV 1 hts gX7_takeRoot_X7_fails rfl rfl rfl (by decide +kernel) ⟨Nat.le_of_ble_eq_true rfl, Nat.le_of_ble_eq_true rfl⟩) dX7_takeRoot_9 [0] rfl rfl 0 rfl rfl rfl rfl (Nat.le_of_ble_eq_true rfl) (Nat.zero_le _) (Nat.zero_le _) (fun _ => rfl) (fun r4 u H3 locs hw hP hD hS => ?_)
    try dsimp only at hw
    obtain rfl := hw
    have hP : va_P D vwCl [(mx, .inr (7, [.ref va, .ref vk, .ref vr, .int (nI rl), .ref vs, .int (nI ik), .int (nI 1), .ref vt, .int (nI tl), .int (nI ta), .int yr, .int ys, .int yo, .int yf, .int ye, .ref vc, .ref vb]))] H3 := hP
    have hD : va_D A [(mx, .inr (7, [.ref va, .ref vk, .ref vr, .int (nI rl), .ref vs, .int (nI ik), .int (nI 1), .ref vt, .int (nI tl), .int (nI ta), .int yr, .int ys, .int yo, .int yf, .int ye, .ref vc, .ref vb]))] := hD
    subst hQ
    exact m_iret C0 hS dX7_takeRoot_12 (u := ()) hP (by first | trivial | rfl | omega)
set_option maxHeartbeats 4000000 in
set_option maxRecDepth 100000 in
theorem c_X7_takeRoot_ok (l : Launch) (D : va_G) (cY : Nat → ClassId) (mx va vk vr vs vt vc vb : Nat) (rl ik th tl ta : Nat) (yr ys yo yf ye : Int32) (f : Nat → Nat) (cnt : Nat) (rv : Nat → Nat) (hh : Nat → Nat → Nat) (k : Nat) (hrl : rl ≤ 4) (hrec : n_rec rl rv hh) (hf8 : m_z 8 f) (hf16 : ∀ j, f j < 65536) (hk : k < 8) : m_Mi l yX7_takeRoot wsX7_takeRoot 6 140 D cY [.ref mx, .int (nI k)] [(mx, .inr (7, [.ref va, .ref vk, .ref vr, .int (nI rl), .ref vs, .int (nI ik), .int (nI th), .ref vt, .int (nI tl), .int (nI ta), .int yr, .int ys, .int yo, .int yf, .int ye, .ref vc, .ref vb])), (va, .inl (cY 0, 9, .inl (m_nf (m_all f cnt)))), (vr, .inl (cY 0, 36, .inl (m_nf rv)))] (fun (res : Int32) (u : (Nat → Nat)) => (res = nI (np (f k) 32768)) ∧ (n_rec (min (rl + 1) 4) u (n_push (m_all f cnt) hh))) (fun (u : (Nat → Nat)) => [(mx, .inr (7, [.ref va, .ref vk, .ref vr, .int (nI (min (rl + 1) 4)), .ref vs, .int (nI ik), .int (nI 0), .ref vt, .int (nI tl), .int (nI ta), .int yr, .int ys, .int yo, .int yf, .int ye, .ref vc, .ref vb])), (va, .inl (cY 0, 9, .inl (m_nf (m_all (m_up f k (np (f k) 32768)) cnt)))), (vr, .inl (cY 0, 36, .inl (m_nf u)))]) := by
  refine m_enterI (cc := cX7_takeRoot) (maxL := 2) (ret := (some .int)) (by decide +kernel) rfl (Nat.le_of_ble_eq_true rfl) ?_
  intro p e s m below meth c A ls C0 hP hD hl
  obtain ⟨hx, hb, hr, hml, hts, hown, hlocks, hK, hA⟩ := id C0
  generalize hQ : MQ below _ _ s 0 0 A = Q
  have hS : va_S A s.heap s.heap [] := va_S.rf
  have hl : lv_has ls 2 [(0, .ref mx), (1, .int (nI k))] := hl
  have hwd0 := hts (.fieldLink RX7 7 "NimberFieldModel" "all" "[I") (by decide +kernel)
  have hwd1 := (show ∀ w ∈ u_ws RX7 TX7 17, w ∈ wsX7_takeRoot from by decide +kernel)
  refine lv_iload_n hx hb dX7_takeRoot_0 rfl (lv_at hl 1 rfl) ?_
  refine m_callSi (As := [.int (nI k)]) (rest := []) C0 hl hP hD hS (c_X7_isRegister l D cY (nI k) ) (va_cwS 1 hts gX7_takeRoot_X7_isRegister rfl rfl rfl (by decide +kernel) ⟨Nat.le_of_ble_eq_true rfl, Nat.le_of_ble_eq_true rfl⟩) dX7_takeRoot_1 [] rfl rfl rfl (Nat.le_of_ble_eq_true rfl) (Nat.zero_le _) (Nat.zero_le _) (fun _ => rfl) (fun r2 u H1 locs hw hP hD hS => ?_)
  try dsimp only at hw
  obtain rfl := hw
  have hP : va_P D vwCl [(mx, .inr (7, [.ref va, .ref vk, .ref vr, .int (nI rl), .ref vs, .int (nI ik), .int (nI th), .ref vt, .int (nI tl), .int (nI ta), .int yr, .int ys, .int yo, .int yf, .int ye, .ref vc, .ref vb])), (va, .inl (cY 0, 9, .inl (m_nf (m_all f cnt)))), (vr, .inl (cY 0, 36, .inl (m_nf rv)))] H1 := hP
  have hD : va_D A [(mx, .inr (7, [.ref va, .ref vk, .ref vr, .int (nI rl), .ref vs, .int (nI ik), .int (nI th), .ref vt, .int (nI tl), .int (nI ta), .int yr, .int ys, .int yo, .int yf, .int ye, .ref vc, .ref vb])), (va, .inl (cY 0, 9, .inl (m_nf (m_all f cnt)))), (vr, .inl (cY 0, 36, .inl (m_nf rv)))] := hD
  refine lv_topi (nm_r (congrArg nI (if_pos (m_isR_of hk))) ?_)
  refine lv_if_ne (tgt := 13) hx hb dX7_takeRoot_4 (by decide) (fun c4 => ?_) (fun c4 => ?_)
  · refine lv_aload_n hx hb dX7_takeRoot_13 rfl (lv_at hl 0 rfl) ?_
    refine m_callVv (As := []) (rest := []) C0 hl hP hD hS (c_X7_records l D cY mx va vk vr vs vt vc vb rl ik th tl ta yr ys yo yf ye f cnt rv hh (by first | assumption | omega | exact nm_lt _ _ | exact np_lt _ _ | decide) (by first | assumption | omega | exact nm_lt _ _ | exact np_lt _ _ | decide)) (cwV 0 hts gX7_takeRoot_X7_records rfl rfl rfl (by decide +kernel) ⟨Nat.le_of_ble_eq_true rfl, Nat.le_of_ble_eq_true rfl⟩) dX7_takeRoot_14 [0, 1, 2] rfl rfl 0 rfl rfl rfl rfl (Nat.le_of_ble_eq_true rfl) (Nat.zero_le _) (Nat.zero_le _) (fun _ => rfl) (fun u H3 locs hw hP hD hS => ?_)
    obtain ⟨rv9_4, rfl⟩ : ∃ z, z = u := ⟨_, rfl⟩
    try dsimp only at hw
    have hq5 := hw; clear hw
    have hP : va_P D vwCl [(mx, .inr (7, [.ref va, .ref vk, .ref vr, .int (nI (min (rl + 1) 4)), .ref vs, .int (nI ik), .int (nI 0), .ref vt, .int (nI tl), .int (nI ta), .int yr, .int ys, .int yo, .int yf, .int ye, .ref vc, .ref vb])), (va, .inl (cY 0, 9, .inl (m_nf (m_all f cnt)))), (vr, .inl (cY 0, 36, .inl (m_nf rv9_4)))] H3 := hP
    have hD : va_D A [(mx, .inr (7, [.ref va, .ref vk, .ref vr, .int (nI (min (rl + 1) 4)), .ref vs, .int (nI ik), .int (nI 0), .ref vt, .int (nI tl), .int (nI ta), .int yr, .int ys, .int yo, .int yf, .int ye, .ref vc, .ref vb])), (va, .inl (cY 0, 9, .inl (m_nf (m_all f cnt)))), (vr, .inl (cY 0, 36, .inl (m_nf rv9_4)))] := hD
    refine lv_aload_n hx hb dX7_takeRoot_17 rfl (lv_at hl 0 rfl) ?_
    refine va_get (D := D) (ci := 7) (v := .ref va) (C := RX7) (T := TX7) (N := 17) hx hb hts hwd1 hown hK hP 0 rfl rfl 0 (by decide) hwd0 (fun _ h9 => h9) rfl dX7_takeRoot_18 ?_
    refine lv_iload_n hx hb dX7_takeRoot_21 rfl (lv_at hl 1 rfl) ?_
    refine lv_aload_n hx hb dX7_takeRoot_22 rfl (lv_at hl 0 rfl) ?_
    refine va_get (D := D) (ci := 7) (v := .ref va) (C := RX7) (T := TX7) (N := 17) hx hb hts hwd1 hown hK hP 0 rfl rfl 0 (by decide) hwd0 (fun _ h9 => h9) rfl dX7_takeRoot_23 ?_
    refine lv_iload_n hx hb dX7_takeRoot_26 rfl (lv_at hl 1 rfl) ?_
    refine va_iald hx hb hK hP 1 0 rfl rfl (m_in (n := k) (by first | assumption | omega) (by decide)) dX7_takeRoot_27 ?_
    refine lv_topi (nm_r (m_ldn (g := m_all f cnt) (n := k) (by omega)) ?_)
    refine lv_topi (nm_r (congrArg nI (m_all_lt f cnt hk)) ?_)
    refine m_callSi (As := [.int (nI (f k))]) (rest := [.int (nI k), .ref va]) C0 hl hP hD hS (c_X7_root l D cY (f k) (hf16 k)) (va_cwS 1 hts gX7_takeRoot_X7_root rfl rfl rfl (by decide +kernel) ⟨Nat.le_of_ble_eq_true rfl, Nat.le_of_ble_eq_true rfl⟩) dX7_takeRoot_28 [] rfl rfl rfl (Nat.le_of_ble_eq_true rfl) (Nat.zero_le _) (Nat.zero_le _) (fun _ => rfl) (fun r7 u H6 locs hw hP hD hS => ?_)
    try dsimp only at hw
    obtain rfl := hw
    have hP : va_P D vwCl [(mx, .inr (7, [.ref va, .ref vk, .ref vr, .int (nI (min (rl + 1) 4)), .ref vs, .int (nI ik), .int (nI 0), .ref vt, .int (nI tl), .int (nI ta), .int yr, .int ys, .int yo, .int yf, .int ye, .ref vc, .ref vb])), (va, .inl (cY 0, 9, .inl (m_nf (m_all f cnt)))), (vr, .inl (cY 0, 36, .inl (m_nf rv9_4)))] H6 := hP
    have hD : va_D A [(mx, .inr (7, [.ref va, .ref vk, .ref vr, .int (nI (min (rl + 1) 4)), .ref vs, .int (nI ik), .int (nI 0), .ref vt, .int (nI tl), .int (nI ta), .int yr, .int ys, .int yo, .int yf, .int ye, .ref vc, .ref vb])), (va, .inl (cY 0, 9, .inl (m_nf (m_all f cnt)))), (vr, .inl (cY 0, 36, .inl (m_nf rv9_4)))] := hD
    refine va_iast hx hb hK hP hD hS 1 0 rfl rfl (m_in (n := k) (by first | assumption | omega) (by decide)) dX7_takeRoot_31 (fun H8 locs hP hD hS => ?_)
    have hP : va_P D vwCl [(mx, .inr (7, [.ref va, .ref vk, .ref vr, .int (nI (min (rl + 1) 4)), .ref vs, .int (nI ik), .int (nI 0), .ref vt, .int (nI tl), .int (nI ta), .int yr, .int ys, .int yo, .int yf, .int ye, .ref vc, .ref vb])), (va, .inl (cY 0, 9, .inl (upd (m_nf (m_all f cnt)) (nI k).toNatClampNeg (nI (np (f k) 32768))))), (vr, .inl (cY 0, 36, .inl (m_nf rv9_4)))] H8 := hP
    have hD : va_D A [(mx, .inr (7, [.ref va, .ref vk, .ref vr, .int (nI (min (rl + 1) 4)), .ref vs, .int (nI ik), .int (nI 0), .ref vt, .int (nI tl), .int (nI ta), .int yr, .int ys, .int yo, .int yf, .int ye, .ref vc, .ref vb])), (va, .inl (cY 0, 9, .inl (upd (m_nf (m_all f cnt)) (nI k).toNatClampNeg (nI (np (f k) 32768))))), (vr, .inl (cY 0, 36, .inl (m_nf rv9_4)))] := hD
    rw [m_upd (g := m_all f cnt) (n := k) (v := np (f k) 32768) (by omega)] at hP hD
    have hP : va_P D vwCl [(mx, .inr (7, [.ref va, .ref vk, .ref vr, .int (nI (min (rl + 1) 4)), .ref vs, .int (nI ik), .int (nI 0), .ref vt, .int (nI tl), .int (nI ta), .int yr, .int ys, .int yo, .int yf, .int ye, .ref vc, .ref vb])), (va, .inl (cY 0, 9, .inl (m_nf (m_up (m_all f cnt) k (np (f k) 32768))))), (vr, .inl (cY 0, 36, .inl (m_nf rv9_4)))] H8 := hP
    have hD : va_D A [(mx, .inr (7, [.ref va, .ref vk, .ref vr, .int (nI (min (rl + 1) 4)), .ref vs, .int (nI ik), .int (nI 0), .ref vt, .int (nI tl), .int (nI ta), .int yr, .int ys, .int yo, .int yf, .int ye, .ref vc, .ref vb])), (va, .inl (cY 0, 9, .inl (m_nf (m_up (m_all f cnt) k (np (f k) 32768))))), (vr, .inl (cY 0, 36, .inl (m_nf rv9_4)))] := hD
    rw [show m_nf (m_up (m_all f cnt) k (np (f k) 32768)) = m_nf (m_all (m_up f k (np (f k) 32768)) cnt) from congrArg m_nf (m_all_up hk)] at hP hD
    have hP : va_P D vwCl [(mx, .inr (7, [.ref va, .ref vk, .ref vr, .int (nI (min (rl + 1) 4)), .ref vs, .int (nI ik), .int (nI 0), .ref vt, .int (nI tl), .int (nI ta), .int yr, .int ys, .int yo, .int yf, .int ye, .ref vc, .ref vb])), (va, .inl (cY 0, 9, .inl (m_nf (m_all (m_up f k (np (f k) 32768)) cnt)))), (vr, .inl (cY 0, 36, .inl (m_nf rv9_4)))] H8 := hP
    have hD : va_D A [(mx, .inr (7, [.ref va, .ref vk, .ref vr, .int (nI (min (rl + 1) 4)), .ref vs, .int (nI ik), .int (nI 0), .ref vt, .int (nI tl), .int (nI ta), .int yr, .int ys, .int yo, .int yf, .int ye, .ref vc, .ref vb])), (va, .inl (cY 0, 9, .inl (m_nf (m_all (m_up f k (np (f k) 32768)) cnt)))), (vr, .inl (cY 0, 36, .inl (m_nf rv9_4)))] := hD
    refine lv_aload_n hx hb dX7_takeRoot_32 rfl (lv_at hl 0 rfl) ?_
    refine va_get (D := D) (ci := 7) (v := .ref va) (C := RX7) (T := TX7) (N := 17) hx hb hts hwd1 hown hK hP 0 rfl rfl 0 (by decide) hwd0 (fun _ h9 => h9) rfl dX7_takeRoot_33 ?_
    refine lv_iload_n hx hb dX7_takeRoot_36 rfl (lv_at hl 1 rfl) ?_
    refine va_iald hx hb hK hP 1 0 rfl rfl (m_in (n := k) (by first | assumption | omega) (by decide)) dX7_takeRoot_37 ?_
    refine lv_topi (nm_r (m_ldn (g := m_all (m_up f k (np (f k) 32768)) cnt) (n := k) (by omega)) ?_)
    refine lv_topi (nm_r (congrArg nI ((m_all_lt _ _ hk).trans (m_ups f k (np (f k) 32768)))) ?_)
    subst hQ
    exact m_iret C0 hS dX7_takeRoot_38 (u := rv9_4) hP (⟨rfl, hq5⟩)
  · exact absurd c4 (by decide)
set_option maxHeartbeats 4000000 in
set_option maxRecDepth 100000 in
theorem c_X7_multiply_f1 (l : Launch) (D : va_G) (cY : Nat → ClassId) (mx va vk vr vs vt vc vb : Nat) (rl ik th tl ta : Nat) (yr ys yo yf ye : Int32) (x y : Int32) (hn : ¬ (m_isR x ∧ m_isR y)) : m_Mi l yX7_multiply wsX7_multiply 2 45 D cY [.ref mx, .int x, .int y] [(mx, .inr (7, [.ref va, .ref vk, .ref vr, .int (nI rl), .ref vs, .int (nI ik), .int (nI th), .ref vt, .int (nI tl), .int (nI ta), .int yr, .int ys, .int yo, .int yf, .int ye, .ref vc, .ref vb]))] (fun (res : Int32) (u : Unit) => res = nI 0) (fun (u : Unit) => [(mx, .inr (7, [.ref va, .ref vk, .ref vr, .int (nI rl), .ref vs, .int (nI ik), .int (nI 1), .ref vt, .int (nI tl), .int (nI ta), .int yr, .int ys, .int yo, .int yf, .int ye, .ref vc, .ref vb]))]) := by
  refine m_enterI (cc := cX7_multiply) (maxL := 3) (ret := (some .int)) (by decide +kernel) rfl (Nat.le_of_ble_eq_true rfl) ?_
  intro p e s m below meth c A ls C0 hP hD hl
  obtain ⟨hx, hb, hr, hml, hts, hown, hlocks, hK, hA⟩ := id C0
  generalize hQ : MQ below _ _ s 0 0 A = Q
  have hS : va_S A s.heap s.heap [] := va_S.rf
  have hl : lv_has ls 3 [(0, .ref mx), (1, .int x), (2, .int y)] := hl
  refine lv_iload_n hx hb dX7_multiply_0 rfl (lv_at hl 1 rfl) ?_
  refine m_callSi (As := [.int x]) (rest := []) C0 hl hP hD hS (c_X7_isRegister l D cY x ) (va_cwS 1 hts gX7_multiply_X7_isRegister rfl rfl rfl (by decide +kernel) ⟨Nat.le_of_ble_eq_true rfl, Nat.le_of_ble_eq_true rfl⟩) dX7_multiply_1 [] rfl rfl rfl (Nat.le_of_ble_eq_true rfl) (Nat.zero_le _) (Nat.zero_le _) (fun _ => rfl) (fun r2 u H1 locs hw hP hD hS => ?_)
  try dsimp only at hw
  obtain rfl := hw
  have hP : va_P D vwCl [(mx, .inr (7, [.ref va, .ref vk, .ref vr, .int (nI rl), .ref vs, .int (nI ik), .int (nI th), .ref vt, .int (nI tl), .int (nI ta), .int yr, .int ys, .int yo, .int yf, .int ye, .ref vc, .ref vb]))] H1 := hP
  have hD : va_D A [(mx, .inr (7, [.ref va, .ref vk, .ref vr, .int (nI rl), .ref vs, .int (nI ik), .int (nI th), .ref vt, .int (nI tl), .int (nI ta), .int yr, .int ys, .int yo, .int yf, .int ye, .ref vc, .ref vb]))] := hD
  rcases Decidable.em (m_isR x) with hc | hc
  · skip
    refine lv_topi (nm_r (congrArg nI (if_pos hc)) ?_)
    refine lv_if_eq (tgt := 14) hx hb dX7_multiply_4 (by decide) (fun c4 => ?_) (fun c4 => ?_)
    · exact absurd c4 (by decide)
    · refine lv_iload_n hx hb dX7_multiply_7 rfl (lv_at hl 2 rfl) ?_
      refine m_callSi (As := [.int y]) (rest := []) C0 hl hP hD hS (c_X7_isRegister l D cY y ) (va_cwS 1 hts gX7_multiply_X7_isRegister rfl rfl rfl (by decide +kernel) ⟨Nat.le_of_ble_eq_true rfl, Nat.le_of_ble_eq_true rfl⟩) dX7_multiply_8 [] rfl rfl rfl (Nat.le_of_ble_eq_true rfl) (Nat.zero_le _) (Nat.zero_le _) (fun _ => rfl) (fun r4 u H3 locs hw hP hD hS => ?_)
      try dsimp only at hw
      obtain rfl := hw
      have hP : va_P D vwCl [(mx, .inr (7, [.ref va, .ref vk, .ref vr, .int (nI rl), .ref vs, .int (nI ik), .int (nI th), .ref vt, .int (nI tl), .int (nI ta), .int yr, .int ys, .int yo, .int yf, .int ye, .ref vc, .ref vb]))] H3 := hP
      have hD : va_D A [(mx, .inr (7, [.ref va, .ref vk, .ref vr, .int (nI rl), .ref vs, .int (nI ik), .int (nI th), .ref vt, .int (nI tl), .int (nI ta), .int yr, .int ys, .int yo, .int yf, .int ye, .ref vc, .ref vb]))] := hD
      refine lv_topi (nm_r (congrArg nI (if_neg (fun q => hn ⟨hc, q⟩))) ?_)
      refine lv_if_ne (tgt := 20) hx hb dX7_multiply_11 (by decide) (fun c11 => ?_) (fun c11 => ?_)
      · exact absurd c11 (by decide)
      · refine lv_aload_n hx hb dX7_multiply_14 rfl (lv_at hl 0 rfl) ?_
        refine lv_iconst (v := nI 1) hx hb dX7_multiply_15 (by decide) ?_
        refine m_callVi (As := [.int (nI 1)]) (rest := []) C0 hl hP hD hS (c_X7_fails l D cY mx va vk vr vs vt vc vb rl ik th tl ta yr ys yo yf ye 1 ) (cwV 1 hts gX7_multiply_X7_fails rfl rfl rfl (by decide +kernel) ⟨Nat.le_of_ble_eq_true rfl, Nat.le_of_ble_eq_true rfl⟩) dX7_multiply_16 [0] rfl rfl 0 rfl rfl rfl rfl (Nat.le_of_ble_eq_true rfl) (Nat.zero_le _) (Nat.zero_le _) (fun _ => rfl) (fun r6 u H5 locs hw hP hD hS => ?_)
        try dsimp only at hw
        obtain rfl := hw
        have hP : va_P D vwCl [(mx, .inr (7, [.ref va, .ref vk, .ref vr, .int (nI rl), .ref vs, .int (nI ik), .int (nI 1), .ref vt, .int (nI tl), .int (nI ta), .int yr, .int ys, .int yo, .int yf, .int ye, .ref vc, .ref vb]))] H5 := hP
        have hD : va_D A [(mx, .inr (7, [.ref va, .ref vk, .ref vr, .int (nI rl), .ref vs, .int (nI ik), .int (nI 1), .ref vt, .int (nI tl), .int (nI ta), .int yr, .int ys, .int yo, .int yf, .int ye, .ref vc, .ref vb]))] := hD
        subst hQ
        exact m_iret C0 hS dX7_multiply_19 (u := ()) hP (by first | trivial | rfl | omega)
  · skip
    refine lv_topi (nm_r (congrArg nI (if_neg hc)) ?_)
    refine lv_if_eq (tgt := 14) hx hb dX7_multiply_4 (by decide) (fun c4 => ?_) (fun c4 => ?_)
    · refine lv_aload_n hx hb dX7_multiply_14 rfl (lv_at hl 0 rfl) ?_
      refine lv_iconst (v := nI 1) hx hb dX7_multiply_15 (by decide) ?_
      refine m_callVi (As := [.int (nI 1)]) (rest := []) C0 hl hP hD hS (c_X7_fails l D cY mx va vk vr vs vt vc vb rl ik th tl ta yr ys yo yf ye 1 ) (cwV 1 hts gX7_multiply_X7_fails rfl rfl rfl (by decide +kernel) ⟨Nat.le_of_ble_eq_true rfl, Nat.le_of_ble_eq_true rfl⟩) dX7_multiply_16 [0] rfl rfl 0 rfl rfl rfl rfl (Nat.le_of_ble_eq_true rfl) (Nat.zero_le _) (Nat.zero_le _) (fun _ => rfl) (fun r8 u H7 locs hw hP hD hS => ?_)
      try dsimp only at hw
      obtain rfl := hw
      have hP : va_P D vwCl [(mx, .inr (7, [.ref va, .ref vk, .ref vr, .int (nI rl), .ref vs, .int (nI ik), .int (nI 1), .ref vt, .int (nI tl), .int (nI ta), .int yr, .int ys, .int yo, .int yf, .int ye, .ref vc, .ref vb]))] H7 := hP
      have hD : va_D A [(mx, .inr (7, [.ref va, .ref vk, .ref vr, .int (nI rl), .ref vs, .int (nI ik), .int (nI 1), .ref vt, .int (nI tl), .int (nI ta), .int yr, .int ys, .int yo, .int yf, .int ye, .ref vc, .ref vb]))] := hD
      subst hQ
      exact m_iret C0 hS dX7_multiply_19 (u := ()) hP (by first | trivial | rfl | omega)
    · exact absurd c4 (by decide)
set_option maxHeartbeats 4000000 in
set_option maxRecDepth 100000 in
theorem c_X7_exchange_f1 (l : Launch) (D : va_G) (cY : Nat → ClassId) (mx va vk vr vs vt vc vb : Nat) (rl ik th tl ta : Nat) (yr ys yo yf ye : Int32) (x y : Int32) (hn : ¬ (m_isR x ∧ m_isR y)) : m_Mi l yX7_exchange wsX7_exchange 2 45 D cY [.ref mx, .int x, .int y] [(mx, .inr (7, [.ref va, .ref vk, .ref vr, .int (nI rl), .ref vs, .int (nI ik), .int (nI th), .ref vt, .int (nI tl), .int (nI ta), .int yr, .int ys, .int yo, .int yf, .int ye, .ref vc, .ref vb]))] (fun (res : Int32) (u : Unit) => res = nI 0) (fun (u : Unit) => [(mx, .inr (7, [.ref va, .ref vk, .ref vr, .int (nI rl), .ref vs, .int (nI ik), .int (nI 1), .ref vt, .int (nI tl), .int (nI ta), .int yr, .int ys, .int yo, .int yf, .int ye, .ref vc, .ref vb]))]) := by
  refine m_enterI (cc := cX7_exchange) (maxL := 4) (ret := (some .int)) (by decide +kernel) rfl (Nat.le_of_ble_eq_true rfl) ?_
  intro p e s m below meth c A ls C0 hP hD hl
  obtain ⟨hx, hb, hr, hml, hts, hown, hlocks, hK, hA⟩ := id C0
  generalize hQ : MQ below _ _ s 0 0 A = Q
  have hS : va_S A s.heap s.heap [] := va_S.rf
  have hl : lv_has ls 4 [(0, .ref mx), (1, .int x), (2, .int y)] := hl
  refine lv_iload_n hx hb dX7_exchange_0 rfl (lv_at hl 1 rfl) ?_
  refine m_callSi (As := [.int x]) (rest := []) C0 hl hP hD hS (c_X7_isRegister l D cY x ) (va_cwS 1 hts gX7_exchange_X7_isRegister rfl rfl rfl (by decide +kernel) ⟨Nat.le_of_ble_eq_true rfl, Nat.le_of_ble_eq_true rfl⟩) dX7_exchange_1 [] rfl rfl rfl (Nat.le_of_ble_eq_true rfl) (Nat.zero_le _) (Nat.zero_le _) (fun _ => rfl) (fun r2 u H1 locs hw hP hD hS => ?_)
  try dsimp only at hw
  obtain rfl := hw
  have hP : va_P D vwCl [(mx, .inr (7, [.ref va, .ref vk, .ref vr, .int (nI rl), .ref vs, .int (nI ik), .int (nI th), .ref vt, .int (nI tl), .int (nI ta), .int yr, .int ys, .int yo, .int yf, .int ye, .ref vc, .ref vb]))] H1 := hP
  have hD : va_D A [(mx, .inr (7, [.ref va, .ref vk, .ref vr, .int (nI rl), .ref vs, .int (nI ik), .int (nI th), .ref vt, .int (nI tl), .int (nI ta), .int yr, .int ys, .int yo, .int yf, .int ye, .ref vc, .ref vb]))] := hD
  rcases Decidable.em (m_isR x) with hc | hc
  · skip
    refine lv_topi (nm_r (congrArg nI (if_pos hc)) ?_)
    refine lv_if_eq (tgt := 14) hx hb dX7_exchange_4 (by decide) (fun c4 => ?_) (fun c4 => ?_)
    · exact absurd c4 (by decide)
    · refine lv_iload_n hx hb dX7_exchange_7 rfl (lv_at hl 2 rfl) ?_
      refine m_callSi (As := [.int y]) (rest := []) C0 hl hP hD hS (c_X7_isRegister l D cY y ) (va_cwS 1 hts gX7_exchange_X7_isRegister rfl rfl rfl (by decide +kernel) ⟨Nat.le_of_ble_eq_true rfl, Nat.le_of_ble_eq_true rfl⟩) dX7_exchange_8 [] rfl rfl rfl (Nat.le_of_ble_eq_true rfl) (Nat.zero_le _) (Nat.zero_le _) (fun _ => rfl) (fun r4 u H3 locs hw hP hD hS => ?_)
      try dsimp only at hw
      obtain rfl := hw
      have hP : va_P D vwCl [(mx, .inr (7, [.ref va, .ref vk, .ref vr, .int (nI rl), .ref vs, .int (nI ik), .int (nI th), .ref vt, .int (nI tl), .int (nI ta), .int yr, .int ys, .int yo, .int yf, .int ye, .ref vc, .ref vb]))] H3 := hP
      have hD : va_D A [(mx, .inr (7, [.ref va, .ref vk, .ref vr, .int (nI rl), .ref vs, .int (nI ik), .int (nI th), .ref vt, .int (nI tl), .int (nI ta), .int yr, .int ys, .int yo, .int yf, .int ye, .ref vc, .ref vb]))] := hD
      refine lv_topi (nm_r (congrArg nI (if_neg (fun q => hn ⟨hc, q⟩))) ?_)
      refine lv_if_ne (tgt := 20) hx hb dX7_exchange_11 (by decide) (fun c11 => ?_) (fun c11 => ?_)
      · exact absurd c11 (by decide)
      · refine lv_aload_n hx hb dX7_exchange_14 rfl (lv_at hl 0 rfl) ?_
        refine lv_iconst (v := nI 1) hx hb dX7_exchange_15 (by decide) ?_
        refine m_callVi (As := [.int (nI 1)]) (rest := []) C0 hl hP hD hS (c_X7_fails l D cY mx va vk vr vs vt vc vb rl ik th tl ta yr ys yo yf ye 1 ) (cwV 1 hts gX7_exchange_X7_fails rfl rfl rfl (by decide +kernel) ⟨Nat.le_of_ble_eq_true rfl, Nat.le_of_ble_eq_true rfl⟩) dX7_exchange_16 [0] rfl rfl 0 rfl rfl rfl rfl (Nat.le_of_ble_eq_true rfl) (Nat.zero_le _) (Nat.zero_le _) (fun _ => rfl) (fun r6 u H5 locs hw hP hD hS => ?_)
        try dsimp only at hw
        obtain rfl := hw
        have hP : va_P D vwCl [(mx, .inr (7, [.ref va, .ref vk, .ref vr, .int (nI rl), .ref vs, .int (nI ik), .int (nI 1), .ref vt, .int (nI tl), .int (nI ta), .int yr, .int ys, .int yo, .int yf, .int ye, .ref vc, .ref vb]))] H5 := hP
        have hD : va_D A [(mx, .inr (7, [.ref va, .ref vk, .ref vr, .int (nI rl), .ref vs, .int (nI ik), .int (nI 1), .ref vt, .int (nI tl), .int (nI ta), .int yr, .int ys, .int yo, .int yf, .int ye, .ref vc, .ref vb]))] := hD
        subst hQ
        exact m_iret C0 hS dX7_exchange_19 (u := ()) hP (by first | trivial | rfl | omega)
  · skip
    refine lv_topi (nm_r (congrArg nI (if_neg hc)) ?_)
    refine lv_if_eq (tgt := 14) hx hb dX7_exchange_4 (by decide) (fun c4 => ?_) (fun c4 => ?_)
    · refine lv_aload_n hx hb dX7_exchange_14 rfl (lv_at hl 0 rfl) ?_
      refine lv_iconst (v := nI 1) hx hb dX7_exchange_15 (by decide) ?_
      refine m_callVi (As := [.int (nI 1)]) (rest := []) C0 hl hP hD hS (c_X7_fails l D cY mx va vk vr vs vt vc vb rl ik th tl ta yr ys yo yf ye 1 ) (cwV 1 hts gX7_exchange_X7_fails rfl rfl rfl (by decide +kernel) ⟨Nat.le_of_ble_eq_true rfl, Nat.le_of_ble_eq_true rfl⟩) dX7_exchange_16 [0] rfl rfl 0 rfl rfl rfl rfl (Nat.le_of_ble_eq_true rfl) (Nat.zero_le _) (Nat.zero_le _) (fun _ => rfl) (fun r8 u H7 locs hw hP hD hS => ?_)
      try dsimp only at hw
      obtain rfl := hw
      have hP : va_P D vwCl [(mx, .inr (7, [.ref va, .ref vk, .ref vr, .int (nI rl), .ref vs, .int (nI ik), .int (nI 1), .ref vt, .int (nI tl), .int (nI ta), .int yr, .int ys, .int yo, .int yf, .int ye, .ref vc, .ref vb]))] H7 := hP
      have hD : va_D A [(mx, .inr (7, [.ref va, .ref vk, .ref vr, .int (nI rl), .ref vs, .int (nI ik), .int (nI 1), .ref vt, .int (nI tl), .int (nI ta), .int yr, .int ys, .int yo, .int yf, .int ye, .ref vc, .ref vb]))] := hD
      subst hQ
      exact m_iret C0 hS dX7_exchange_19 (u := ()) hP (by first | trivial | rfl | omega)
    · exact absurd c4 (by decide)
set_option maxHeartbeats 4000000 in
set_option maxRecDepth 100000 in
theorem c_X7_multiply_ok (l : Launch) (D : va_G) (cY : Nat → ClassId) (mx va vk vr vs vt vc vb : Nat) (rl ik th tl ta : Nat) (yr ys yo yf ye : Int32) (f : Nat → Nat) (cnt : Nat) (rv : Nat → Nat) (hh : Nat → Nat → Nat) (k j : Nat) (hrl : rl ≤ 4) (hrec : n_rec rl rv hh) (hf8 : m_z 8 f) (hf16 : ∀ j, f j < 65536) (hk : k < 8) (hj : j < 8) : m_Mi l yX7_multiply wsX7_multiply 4 96 D cY [.ref mx, .int (nI k), .int (nI j)] [(mx, .inr (7, [.ref va, .ref vk, .ref vr, .int (nI rl), .ref vs, .int (nI ik), .int (nI th), .ref vt, .int (nI tl), .int (nI ta), .int yr, .int ys, .int yo, .int yf, .int ye, .ref vc, .ref vb])), (va, .inl (cY 0, 9, .inl (m_nf (m_all f cnt)))), (vr, .inl (cY 0, 36, .inl (m_nf rv)))] (fun (res : Int32) (u : (Nat → Nat)) => (res = nI (nm (f k) (f j))) ∧ (n_rec (min (rl + 1) 4) u (n_push (m_all f cnt) hh))) (fun (u : (Nat → Nat)) => [(mx, .inr (7, [.ref va, .ref vk, .ref vr, .int (nI (min (rl + 1) 4)), .ref vs, .int (nI ik), .int (nI 0), .ref vt, .int (nI tl), .int (nI ta), .int yr, .int ys, .int yo, .int yf, .int ye, .ref vc, .ref vb])), (va, .inl (cY 0, 9, .inl (m_nf (m_all (m_up f k (nm (f k) (f j))) (cnt + 1))))), (vr, .inl (cY 0, 36, .inl (m_nf u)))]) := by
  refine m_enterI (cc := cX7_multiply) (maxL := 3) (ret := (some .int)) (by decide +kernel) rfl (Nat.le_of_ble_eq_true rfl) ?_
  intro p e s m below meth c A ls C0 hP hD hl
  obtain ⟨hx, hb, hr, hml, hts, hown, hlocks, hK, hA⟩ := id C0
  generalize hQ : MQ below _ _ s 0 0 A = Q
  have hS : va_S A s.heap s.heap [] := va_S.rf
  have hl : lv_has ls 3 [(0, .ref mx), (1, .int (nI k)), (2, .int (nI j))] := hl
  have hwd0 := hts (.fieldLink RX7 7 "NimberFieldModel" "all" "[I") (by decide +kernel)
  have hwd1 := (show ∀ w ∈ u_ws RX7 TX7 17, w ∈ wsX7_multiply from by decide +kernel)
  refine lv_iload_n hx hb dX7_multiply_0 rfl (lv_at hl 1 rfl) ?_
  refine m_callSi (As := [.int (nI k)]) (rest := []) C0 hl hP hD hS (c_X7_isRegister l D cY (nI k) ) (va_cwS 1 hts gX7_multiply_X7_isRegister rfl rfl rfl (by decide +kernel) ⟨Nat.le_of_ble_eq_true rfl, Nat.le_of_ble_eq_true rfl⟩) dX7_multiply_1 [] rfl rfl rfl (Nat.le_of_ble_eq_true rfl) (Nat.zero_le _) (Nat.zero_le _) (fun _ => rfl) (fun r2 u H1 locs hw hP hD hS => ?_)
  try dsimp only at hw
  obtain rfl := hw
  have hP : va_P D vwCl [(mx, .inr (7, [.ref va, .ref vk, .ref vr, .int (nI rl), .ref vs, .int (nI ik), .int (nI th), .ref vt, .int (nI tl), .int (nI ta), .int yr, .int ys, .int yo, .int yf, .int ye, .ref vc, .ref vb])), (va, .inl (cY 0, 9, .inl (m_nf (m_all f cnt)))), (vr, .inl (cY 0, 36, .inl (m_nf rv)))] H1 := hP
  have hD : va_D A [(mx, .inr (7, [.ref va, .ref vk, .ref vr, .int (nI rl), .ref vs, .int (nI ik), .int (nI th), .ref vt, .int (nI tl), .int (nI ta), .int yr, .int ys, .int yo, .int yf, .int ye, .ref vc, .ref vb])), (va, .inl (cY 0, 9, .inl (m_nf (m_all f cnt)))), (vr, .inl (cY 0, 36, .inl (m_nf rv)))] := hD
  refine lv_topi (nm_r (congrArg nI (if_pos (m_isR_of hk))) ?_)
  refine lv_if_eq (tgt := 14) hx hb dX7_multiply_4 (by decide) (fun c4 => ?_) (fun c4 => ?_)
  · exact absurd c4 (by decide)
  · refine lv_iload_n hx hb dX7_multiply_7 rfl (lv_at hl 2 rfl) ?_
    refine m_callSi (As := [.int (nI j)]) (rest := []) C0 hl hP hD hS (c_X7_isRegister l D cY (nI j) ) (va_cwS 1 hts gX7_multiply_X7_isRegister rfl rfl rfl (by decide +kernel) ⟨Nat.le_of_ble_eq_true rfl, Nat.le_of_ble_eq_true rfl⟩) dX7_multiply_8 [] rfl rfl rfl (Nat.le_of_ble_eq_true rfl) (Nat.zero_le _) (Nat.zero_le _) (fun _ => rfl) (fun r4 u H3 locs hw hP hD hS => ?_)
    try dsimp only at hw
    obtain rfl := hw
    have hP : va_P D vwCl [(mx, .inr (7, [.ref va, .ref vk, .ref vr, .int (nI rl), .ref vs, .int (nI ik), .int (nI th), .ref vt, .int (nI tl), .int (nI ta), .int yr, .int ys, .int yo, .int yf, .int ye, .ref vc, .ref vb])), (va, .inl (cY 0, 9, .inl (m_nf (m_all f cnt)))), (vr, .inl (cY 0, 36, .inl (m_nf rv)))] H3 := hP
    have hD : va_D A [(mx, .inr (7, [.ref va, .ref vk, .ref vr, .int (nI rl), .ref vs, .int (nI ik), .int (nI th), .ref vt, .int (nI tl), .int (nI ta), .int yr, .int ys, .int yo, .int yf, .int ye, .ref vc, .ref vb])), (va, .inl (cY 0, 9, .inl (m_nf (m_all f cnt)))), (vr, .inl (cY 0, 36, .inl (m_nf rv)))] := hD
    refine lv_topi (nm_r (congrArg nI (if_pos (m_isR_of hj))) ?_)
    refine lv_if_ne (tgt := 20) hx hb dX7_multiply_11 (by decide) (fun c11 => ?_) (fun c11 => ?_)
    · refine lv_aload_n hx hb dX7_multiply_20 rfl (lv_at hl 0 rfl) ?_
      refine m_callVv (As := []) (rest := []) C0 hl hP hD hS (c_X7_records l D cY mx va vk vr vs vt vc vb rl ik th tl ta yr ys yo yf ye f cnt rv hh (by first | assumption | omega | exact nm_lt _ _ | exact np_lt _ _ | decide) (by first | assumption | omega | exact nm_lt _ _ | exact np_lt _ _ | decide)) (cwV 0 hts gX7_multiply_X7_records rfl rfl rfl (by decide +kernel) ⟨Nat.le_of_ble_eq_true rfl, Nat.le_of_ble_eq_true rfl⟩) dX7_multiply_21 [0, 1, 2] rfl rfl 0 rfl rfl rfl rfl (Nat.le_of_ble_eq_true rfl) (Nat.zero_le _) (Nat.zero_le _) (fun _ => rfl) (fun u H5 locs hw hP hD hS => ?_)
      obtain ⟨rv9_6, rfl⟩ : ∃ z, z = u := ⟨_, rfl⟩
      try dsimp only at hw
      have hq7 := hw; clear hw
      have hP : va_P D vwCl [(mx, .inr (7, [.ref va, .ref vk, .ref vr, .int (nI (min (rl + 1) 4)), .ref vs, .int (nI ik), .int (nI 0), .ref vt, .int (nI tl), .int (nI ta), .int yr, .int ys, .int yo, .int yf, .int ye, .ref vc, .ref vb])), (va, .inl (cY 0, 9, .inl (m_nf (m_all f cnt)))), (vr, .inl (cY 0, 36, .inl (m_nf rv9_6)))] H5 := hP
      have hD : va_D A [(mx, .inr (7, [.ref va, .ref vk, .ref vr, .int (nI (min (rl + 1) 4)), .ref vs, .int (nI ik), .int (nI 0), .ref vt, .int (nI tl), .int (nI ta), .int yr, .int ys, .int yo, .int yf, .int ye, .ref vc, .ref vb])), (va, .inl (cY 0, 9, .inl (m_nf (m_all f cnt)))), (vr, .inl (cY 0, 36, .inl (m_nf rv9_6)))] := hD
      refine lv_aload_n hx hb dX7_multiply_24 rfl (lv_at hl 0 rfl) ?_
      refine va_get (D := D) (ci := 7) (v := .ref va) (C := RX7) (T := TX7) (N := 17) hx hb hts hwd1 hown hK hP 0 rfl rfl 0 (by decide) hwd0 (fun _ h9 => h9) rfl dX7_multiply_25 ?_
      refine lv_iload_n hx hb dX7_multiply_28 rfl (lv_at hl 1 rfl) ?_
      refine lv_aload_n hx hb dX7_multiply_29 rfl (lv_at hl 0 rfl) ?_
      refine va_get (D := D) (ci := 7) (v := .ref va) (C := RX7) (T := TX7) (N := 17) hx hb hts hwd1 hown hK hP 0 rfl rfl 0 (by decide) hwd0 (fun _ h9 => h9) rfl dX7_multiply_30 ?_
      refine lv_iload_n hx hb dX7_multiply_33 rfl (lv_at hl 1 rfl) ?_
      refine va_iald hx hb hK hP 1 0 rfl rfl (m_in (n := k) (by first | assumption | omega) (by decide)) dX7_multiply_34 ?_
      refine lv_topi (nm_r (m_ldn (g := m_all f cnt) (n := k) (by omega)) ?_)
      refine lv_topi (nm_r (congrArg nI (m_all_lt f cnt hk)) ?_)
      refine lv_aload_n hx hb dX7_multiply_35 rfl (lv_at hl 0 rfl) ?_
      refine va_get (D := D) (ci := 7) (v := .ref va) (C := RX7) (T := TX7) (N := 17) hx hb hts hwd1 hown hK hP 0 rfl rfl 0 (by decide) hwd0 (fun _ h9 => h9) rfl dX7_multiply_36 ?_
      refine lv_iload_n hx hb dX7_multiply_39 rfl (lv_at hl 2 rfl) ?_
      refine va_iald hx hb hK hP 1 0 rfl rfl (m_in (n := j) (by first | assumption | omega) (by decide)) dX7_multiply_40 ?_
      refine lv_topi (nm_r (m_ldn (g := m_all f cnt) (n := j) (by omega)) ?_)
      refine lv_topi (nm_r (congrArg nI (m_all_lt f cnt hj)) ?_)
      refine m_callSi (As := [.int (nI (f k)), .int (nI (f j))]) (rest := [.int (nI k), .ref va]) C0 hl hP hD hS (c_X7_times l D cY (f k) (f j) (hf16 k) (hf16 j)) (va_cwS 2 hts gX7_multiply_X7_times rfl rfl rfl (by decide +kernel) ⟨Nat.le_of_ble_eq_true rfl, Nat.le_of_ble_eq_true rfl⟩) dX7_multiply_41 [] rfl rfl rfl (Nat.le_of_ble_eq_true rfl) (Nat.zero_le _) (Nat.zero_le _) (fun _ => rfl) (fun r9 u H8 locs hw hP hD hS => ?_)
      try dsimp only at hw
      obtain rfl := hw
      have hP : va_P D vwCl [(mx, .inr (7, [.ref va, .ref vk, .ref vr, .int (nI (min (rl + 1) 4)), .ref vs, .int (nI ik), .int (nI 0), .ref vt, .int (nI tl), .int (nI ta), .int yr, .int ys, .int yo, .int yf, .int ye, .ref vc, .ref vb])), (va, .inl (cY 0, 9, .inl (m_nf (m_all f cnt)))), (vr, .inl (cY 0, 36, .inl (m_nf rv9_6)))] H8 := hP
      have hD : va_D A [(mx, .inr (7, [.ref va, .ref vk, .ref vr, .int (nI (min (rl + 1) 4)), .ref vs, .int (nI ik), .int (nI 0), .ref vt, .int (nI tl), .int (nI ta), .int yr, .int ys, .int yo, .int yf, .int ye, .ref vc, .ref vb])), (va, .inl (cY 0, 9, .inl (m_nf (m_all f cnt)))), (vr, .inl (cY 0, 36, .inl (m_nf rv9_6)))] := hD
      refine va_iast hx hb hK hP hD hS 1 0 rfl rfl (m_in (n := k) (by first | assumption | omega) (by decide)) dX7_multiply_44 (fun H10 locs hP hD hS => ?_)
      have hP : va_P D vwCl [(mx, .inr (7, [.ref va, .ref vk, .ref vr, .int (nI (min (rl + 1) 4)), .ref vs, .int (nI ik), .int (nI 0), .ref vt, .int (nI tl), .int (nI ta), .int yr, .int ys, .int yo, .int yf, .int ye, .ref vc, .ref vb])), (va, .inl (cY 0, 9, .inl (upd (m_nf (m_all f cnt)) (nI k).toNatClampNeg (nI (nm (f k) (f j)))))), (vr, .inl (cY 0, 36, .inl (m_nf rv9_6)))] H10 := hP
      have hD : va_D A [(mx, .inr (7, [.ref va, .ref vk, .ref vr, .int (nI (min (rl + 1) 4)), .ref vs, .int (nI ik), .int (nI 0), .ref vt, .int (nI tl), .int (nI ta), .int yr, .int ys, .int yo, .int yf, .int ye, .ref vc, .ref vb])), (va, .inl (cY 0, 9, .inl (upd (m_nf (m_all f cnt)) (nI k).toNatClampNeg (nI (nm (f k) (f j)))))), (vr, .inl (cY 0, 36, .inl (m_nf rv9_6)))] := hD
      rw [m_upd (g := m_all f cnt) (n := k) (v := nm (f k) (f j)) (by omega)] at hP hD
      have hP : va_P D vwCl [(mx, .inr (7, [.ref va, .ref vk, .ref vr, .int (nI (min (rl + 1) 4)), .ref vs, .int (nI ik), .int (nI 0), .ref vt, .int (nI tl), .int (nI ta), .int yr, .int ys, .int yo, .int yf, .int ye, .ref vc, .ref vb])), (va, .inl (cY 0, 9, .inl (m_nf (m_up (m_all f cnt) k (nm (f k) (f j)))))), (vr, .inl (cY 0, 36, .inl (m_nf rv9_6)))] H10 := hP
      have hD : va_D A [(mx, .inr (7, [.ref va, .ref vk, .ref vr, .int (nI (min (rl + 1) 4)), .ref vs, .int (nI ik), .int (nI 0), .ref vt, .int (nI tl), .int (nI ta), .int yr, .int ys, .int yo, .int yf, .int ye, .ref vc, .ref vb])), (va, .inl (cY 0, 9, .inl (m_nf (m_up (m_all f cnt) k (nm (f k) (f j)))))), (vr, .inl (cY 0, 36, .inl (m_nf rv9_6)))] := hD
      rw [show m_nf (m_up (m_all f cnt) k (nm (f k) (f j))) = m_nf (m_all (m_up f k (nm (f k) (f j))) cnt) from congrArg m_nf (m_all_up hk)] at hP hD
      have hP : va_P D vwCl [(mx, .inr (7, [.ref va, .ref vk, .ref vr, .int (nI (min (rl + 1) 4)), .ref vs, .int (nI ik), .int (nI 0), .ref vt, .int (nI tl), .int (nI ta), .int yr, .int ys, .int yo, .int yf, .int ye, .ref vc, .ref vb])), (va, .inl (cY 0, 9, .inl (m_nf (m_all (m_up f k (nm (f k) (f j))) cnt)))), (vr, .inl (cY 0, 36, .inl (m_nf rv9_6)))] H10 := hP
      have hD : va_D A [(mx, .inr (7, [.ref va, .ref vk, .ref vr, .int (nI (min (rl + 1) 4)), .ref vs, .int (nI ik), .int (nI 0), .ref vt, .int (nI tl), .int (nI ta), .int yr, .int ys, .int yo, .int yf, .int ye, .ref vc, .ref vb])), (va, .inl (cY 0, 9, .inl (m_nf (m_all (m_up f k (nm (f k) (f j))) cnt)))), (vr, .inl (cY 0, 36, .inl (m_nf rv9_6)))] := hD
      refine lv_aload_n hx hb dX7_multiply_45 rfl (lv_at hl 0 rfl) ?_
      refine va_get (D := D) (ci := 7) (v := .ref va) (C := RX7) (T := TX7) (N := 17) hx hb hts hwd1 hown hK hP 0 rfl rfl 0 (by decide) hwd0 (fun _ h9 => h9) rfl dX7_multiply_46 ?_
      refine lv_bipush (v := nI 8) hx hb dX7_multiply_49 (by decide) ?_
      refine lv_dup2_11 hx hb dX7_multiply_51 rfl rfl ?_
      refine va_iald hx hb hK hP 1 0 rfl rfl (m_in (n := 8) (by first | assumption | omega) (by decide)) dX7_multiply_52 ?_
      refine lv_topi (nm_r (m_ldn (g := m_all (m_up f k (nm (f k) (f j))) cnt) (n := 8) (by omega)) ?_)
      refine lv_topi (nm_r (congrArg nI (m_all8 _ _)) ?_)
      refine lv_iconst (v := nI 1) hx hb dX7_multiply_53 (by decide) ?_
      refine lv_iadd hx hb dX7_multiply_54 ?_
      refine lv_topi (nm_r (nI_add _ _) ?_)
      refine va_iast hx hb hK hP hD hS 1 0 rfl rfl (m_in (n := 8) (by first | assumption | omega) (by decide)) dX7_multiply_55 (fun H11 locs hP hD hS => ?_)
      have hP : va_P D vwCl [(mx, .inr (7, [.ref va, .ref vk, .ref vr, .int (nI (min (rl + 1) 4)), .ref vs, .int (nI ik), .int (nI 0), .ref vt, .int (nI tl), .int (nI ta), .int yr, .int ys, .int yo, .int yf, .int ye, .ref vc, .ref vb])), (va, .inl (cY 0, 9, .inl (upd (m_nf (m_all (m_up f k (nm (f k) (f j))) cnt)) (nI 8).toNatClampNeg (nI (cnt + 1))))), (vr, .inl (cY 0, 36, .inl (m_nf rv9_6)))] H11 := hP
      have hD : va_D A [(mx, .inr (7, [.ref va, .ref vk, .ref vr, .int (nI (min (rl + 1) 4)), .ref vs, .int (nI ik), .int (nI 0), .ref vt, .int (nI tl), .int (nI ta), .int yr, .int ys, .int yo, .int yf, .int ye, .ref vc, .ref vb])), (va, .inl (cY 0, 9, .inl (upd (m_nf (m_all (m_up f k (nm (f k) (f j))) cnt)) (nI 8).toNatClampNeg (nI (cnt + 1))))), (vr, .inl (cY 0, 36, .inl (m_nf rv9_6)))] := hD
      rw [m_upd (g := m_all (m_up f k (nm (f k) (f j))) cnt) (n := 8) (v := cnt + 1) (by omega)] at hP hD
      have hP : va_P D vwCl [(mx, .inr (7, [.ref va, .ref vk, .ref vr, .int (nI (min (rl + 1) 4)), .ref vs, .int (nI ik), .int (nI 0), .ref vt, .int (nI tl), .int (nI ta), .int yr, .int ys, .int yo, .int yf, .int ye, .ref vc, .ref vb])), (va, .inl (cY 0, 9, .inl (m_nf (m_up (m_all (m_up f k (nm (f k) (f j))) cnt) 8 (cnt + 1))))), (vr, .inl (cY 0, 36, .inl (m_nf rv9_6)))] H11 := hP
      have hD : va_D A [(mx, .inr (7, [.ref va, .ref vk, .ref vr, .int (nI (min (rl + 1) 4)), .ref vs, .int (nI ik), .int (nI 0), .ref vt, .int (nI tl), .int (nI ta), .int yr, .int ys, .int yo, .int yf, .int ye, .ref vc, .ref vb])), (va, .inl (cY 0, 9, .inl (m_nf (m_up (m_all (m_up f k (nm (f k) (f j))) cnt) 8 (cnt + 1))))), (vr, .inl (cY 0, 36, .inl (m_nf rv9_6)))] := hD
      rw [show m_nf (m_up (m_all (m_up f k (nm (f k) (f j))) cnt) 8 (cnt + 1)) = m_nf (m_all (m_up f k (nm (f k) (f j))) (cnt + 1)) from congrArg m_nf (m_all_up8 _ _ _)] at hP hD
      have hP : va_P D vwCl [(mx, .inr (7, [.ref va, .ref vk, .ref vr, .int (nI (min (rl + 1) 4)), .ref vs, .int (nI ik), .int (nI 0), .ref vt, .int (nI tl), .int (nI ta), .int yr, .int ys, .int yo, .int yf, .int ye, .ref vc, .ref vb])), (va, .inl (cY 0, 9, .inl (m_nf (m_all (m_up f k (nm (f k) (f j))) (cnt + 1))))), (vr, .inl (cY 0, 36, .inl (m_nf rv9_6)))] H11 := hP
      have hD : va_D A [(mx, .inr (7, [.ref va, .ref vk, .ref vr, .int (nI (min (rl + 1) 4)), .ref vs, .int (nI ik), .int (nI 0), .ref vt, .int (nI tl), .int (nI ta), .int yr, .int ys, .int yo, .int yf, .int ye, .ref vc, .ref vb])), (va, .inl (cY 0, 9, .inl (m_nf (m_all (m_up f k (nm (f k) (f j))) (cnt + 1))))), (vr, .inl (cY 0, 36, .inl (m_nf rv9_6)))] := hD
      refine lv_aload_n hx hb dX7_multiply_56 rfl (lv_at hl 0 rfl) ?_
      refine va_get (D := D) (ci := 7) (v := .ref va) (C := RX7) (T := TX7) (N := 17) hx hb hts hwd1 hown hK hP 0 rfl rfl 0 (by decide) hwd0 (fun _ h9 => h9) rfl dX7_multiply_57 ?_
      refine lv_iload_n hx hb dX7_multiply_60 rfl (lv_at hl 1 rfl) ?_
      refine va_iald hx hb hK hP 1 0 rfl rfl (m_in (n := k) (by first | assumption | omega) (by decide)) dX7_multiply_61 ?_
      refine lv_topi (nm_r (m_ldn (g := m_all (m_up f k (nm (f k) (f j))) (cnt + 1)) (n := k) (by omega)) ?_)
      refine lv_topi (nm_r (congrArg nI ((m_all_lt _ _ hk).trans (m_ups f k (nm (f k) (f j))))) ?_)
      subst hQ
      exact m_iret C0 hS dX7_multiply_62 (u := rv9_6) hP (⟨rfl, hq7⟩)
    · exact absurd c11 (by decide)
set_option maxHeartbeats 4000000 in
set_option maxRecDepth 100000 in
theorem c_X7_exchange_ok (l : Launch) (D : va_G) (cY : Nat → ClassId) (mx va vk vr vs vt vc vb : Nat) (rl ik th tl ta : Nat) (yr ys yo yf ye : Int32) (f : Nat → Nat) (cnt : Nat) (rv : Nat → Nat) (hh : Nat → Nat → Nat) (k j : Nat) (hrl : rl ≤ 4) (hrec : n_rec rl rv hh) (hf8 : m_z 8 f) (hf16 : ∀ j, f j < 65536) (hk : k < 8) (hj : j < 8) : m_Mi l yX7_exchange wsX7_exchange 2 45 D cY [.ref mx, .int (nI k), .int (nI j)] [(mx, .inr (7, [.ref va, .ref vk, .ref vr, .int (nI rl), .ref vs, .int (nI ik), .int (nI th), .ref vt, .int (nI tl), .int (nI ta), .int yr, .int ys, .int yo, .int yf, .int ye, .ref vc, .ref vb])), (va, .inl (cY 0, 9, .inl (m_nf (m_all f cnt)))), (vr, .inl (cY 0, 36, .inl (m_nf rv)))] (fun (res : Int32) (u : (Nat → Nat)) => (res = nI (f j)) ∧ (n_rec (min (rl + 1) 4) u (n_push (m_all f cnt) hh))) (fun (u : (Nat → Nat)) => [(mx, .inr (7, [.ref va, .ref vk, .ref vr, .int (nI (min (rl + 1) 4)), .ref vs, .int (nI ik), .int (nI 0), .ref vt, .int (nI tl), .int (nI ta), .int yr, .int ys, .int yo, .int yf, .int ye, .ref vc, .ref vb])), (va, .inl (cY 0, 9, .inl (m_nf (m_all (m_up (m_up f k (f j)) j (f k)) cnt)))), (vr, .inl (cY 0, 36, .inl (m_nf u)))]) := by
  refine m_enterI (cc := cX7_exchange) (maxL := 4) (ret := (some .int)) (by decide +kernel) rfl (Nat.le_of_ble_eq_true rfl) ?_
  intro p e s m below meth c A ls C0 hP hD hl
  obtain ⟨hx, hb, hr, hml, hts, hown, hlocks, hK, hA⟩ := id C0
  generalize hQ : MQ below _ _ s 0 0 A = Q
  have hS : va_S A s.heap s.heap [] := va_S.rf
  have hl : lv_has ls 4 [(0, .ref mx), (1, .int (nI k)), (2, .int (nI j))] := hl
  have hwd0 := hts (.fieldLink RX7 7 "NimberFieldModel" "all" "[I") (by decide +kernel)
  have hwd1 := (show ∀ w ∈ u_ws RX7 TX7 17, w ∈ wsX7_exchange from by decide +kernel)
  refine lv_iload_n hx hb dX7_exchange_0 rfl (lv_at hl 1 rfl) ?_
  refine m_callSi (As := [.int (nI k)]) (rest := []) C0 hl hP hD hS (c_X7_isRegister l D cY (nI k) ) (va_cwS 1 hts gX7_exchange_X7_isRegister rfl rfl rfl (by decide +kernel) ⟨Nat.le_of_ble_eq_true rfl, Nat.le_of_ble_eq_true rfl⟩) dX7_exchange_1 [] rfl rfl rfl (Nat.le_of_ble_eq_true rfl) (Nat.zero_le _) (Nat.zero_le _) (fun _ => rfl) (fun r2 u H1 locs hw hP hD hS => ?_)
  try dsimp only at hw
  obtain rfl := hw
  have hP : va_P D vwCl [(mx, .inr (7, [.ref va, .ref vk, .ref vr, .int (nI rl), .ref vs, .int (nI ik), .int (nI th), .ref vt, .int (nI tl), .int (nI ta), .int yr, .int ys, .int yo, .int yf, .int ye, .ref vc, .ref vb])), (va, .inl (cY 0, 9, .inl (m_nf (m_all f cnt)))), (vr, .inl (cY 0, 36, .inl (m_nf rv)))] H1 := hP
  have hD : va_D A [(mx, .inr (7, [.ref va, .ref vk, .ref vr, .int (nI rl), .ref vs, .int (nI ik), .int (nI th), .ref vt, .int (nI tl), .int (nI ta), .int yr, .int ys, .int yo, .int yf, .int ye, .ref vc, .ref vb])), (va, .inl (cY 0, 9, .inl (m_nf (m_all f cnt)))), (vr, .inl (cY 0, 36, .inl (m_nf rv)))] := hD
  refine lv_topi (nm_r (congrArg nI (if_pos (m_isR_of hk))) ?_)
  refine lv_if_eq (tgt := 14) hx hb dX7_exchange_4 (by decide) (fun c4 => ?_) (fun c4 => ?_)
  · exact absurd c4 (by decide)
  · refine lv_iload_n hx hb dX7_exchange_7 rfl (lv_at hl 2 rfl) ?_
    refine m_callSi (As := [.int (nI j)]) (rest := []) C0 hl hP hD hS (c_X7_isRegister l D cY (nI j) ) (va_cwS 1 hts gX7_exchange_X7_isRegister rfl rfl rfl (by decide +kernel) ⟨Nat.le_of_ble_eq_true rfl, Nat.le_of_ble_eq_true rfl⟩) dX7_exchange_8 [] rfl rfl rfl (Nat.le_of_ble_eq_true rfl) (Nat.zero_le _) (Nat.zero_le _) (fun _ => rfl) (fun r4 u H3 locs hw hP hD hS => ?_)
    try dsimp only at hw
    obtain rfl := hw
    have hP : va_P D vwCl [(mx, .inr (7, [.ref va, .ref vk, .ref vr, .int (nI rl), .ref vs, .int (nI ik), .int (nI th), .ref vt, .int (nI tl), .int (nI ta), .int yr, .int ys, .int yo, .int yf, .int ye, .ref vc, .ref vb])), (va, .inl (cY 0, 9, .inl (m_nf (m_all f cnt)))), (vr, .inl (cY 0, 36, .inl (m_nf rv)))] H3 := hP
    have hD : va_D A [(mx, .inr (7, [.ref va, .ref vk, .ref vr, .int (nI rl), .ref vs, .int (nI ik), .int (nI th), .ref vt, .int (nI tl), .int (nI ta), .int yr, .int ys, .int yo, .int yf, .int ye, .ref vc, .ref vb])), (va, .inl (cY 0, 9, .inl (m_nf (m_all f cnt)))), (vr, .inl (cY 0, 36, .inl (m_nf rv)))] := hD
    refine lv_topi (nm_r (congrArg nI (if_pos (m_isR_of hj))) ?_)
    refine lv_if_ne (tgt := 20) hx hb dX7_exchange_11 (by decide) (fun c11 => ?_) (fun c11 => ?_)
    · refine lv_aload_n hx hb dX7_exchange_20 rfl (lv_at hl 0 rfl) ?_
      refine m_callVv (As := []) (rest := []) C0 hl hP hD hS (c_X7_records l D cY mx va vk vr vs vt vc vb rl ik th tl ta yr ys yo yf ye f cnt rv hh (by first | assumption | omega | exact nm_lt _ _ | exact np_lt _ _ | decide) (by first | assumption | omega | exact nm_lt _ _ | exact np_lt _ _ | decide)) (cwV 0 hts gX7_exchange_X7_records rfl rfl rfl (by decide +kernel) ⟨Nat.le_of_ble_eq_true rfl, Nat.le_of_ble_eq_true rfl⟩) dX7_exchange_21 [0, 1, 2] rfl rfl 0 rfl rfl rfl rfl (Nat.le_of_ble_eq_true rfl) (Nat.zero_le _) (Nat.zero_le _) (fun _ => rfl) (fun u H5 locs hw hP hD hS => ?_)
      obtain ⟨rv9_6, rfl⟩ : ∃ z, z = u := ⟨_, rfl⟩
      try dsimp only at hw
      have hq7 := hw; clear hw
      have hP : va_P D vwCl [(mx, .inr (7, [.ref va, .ref vk, .ref vr, .int (nI (min (rl + 1) 4)), .ref vs, .int (nI ik), .int (nI 0), .ref vt, .int (nI tl), .int (nI ta), .int yr, .int ys, .int yo, .int yf, .int ye, .ref vc, .ref vb])), (va, .inl (cY 0, 9, .inl (m_nf (m_all f cnt)))), (vr, .inl (cY 0, 36, .inl (m_nf rv9_6)))] H5 := hP
      have hD : va_D A [(mx, .inr (7, [.ref va, .ref vk, .ref vr, .int (nI (min (rl + 1) 4)), .ref vs, .int (nI ik), .int (nI 0), .ref vt, .int (nI tl), .int (nI ta), .int yr, .int ys, .int yo, .int yf, .int ye, .ref vc, .ref vb])), (va, .inl (cY 0, 9, .inl (m_nf (m_all f cnt)))), (vr, .inl (cY 0, 36, .inl (m_nf rv9_6)))] := hD
      refine lv_aload_n hx hb dX7_exchange_24 rfl (lv_at hl 0 rfl) ?_
      refine lv_iload_n hx hb dX7_exchange_25 rfl (lv_at hl 1 rfl) ?_
      refine lv_aload_n hx hb dX7_exchange_26 rfl (lv_at hl 0 rfl) ?_
      refine va_get (D := D) (ci := 7) (v := .ref va) (C := RX7) (T := TX7) (N := 17) hx hb hts hwd1 hown hK hP 0 rfl rfl 0 (by decide) hwd0 (fun _ h9 => h9) rfl dX7_exchange_27 ?_
      refine lv_iload_n hx hb dX7_exchange_30 rfl (lv_at hl 2 rfl) ?_
      refine va_iald hx hb hK hP 1 0 rfl rfl (m_in (n := j) (by first | assumption | omega) (by decide)) dX7_exchange_31 ?_
      refine lv_topi (nm_r (m_ldn (g := m_all f cnt) (n := j) (by omega)) ?_)
      refine lv_topi (nm_r (congrArg nI (m_all_lt f cnt hj)) ?_)
      refine m_callVi (As := [.int (nI k), .int (nI (f j))]) (rest := []) C0 hl hP hD hS (c_X7_puts l D cY mx va vk vr vs vt vc vb (min (rl + 1) 4) ik 0 tl ta yr ys yo yf ye f cnt k (f j) (by first | assumption | omega | exact nm_lt _ _ | exact np_lt _ _ | decide)) (cwV 2 hts gX7_exchange_X7_puts rfl rfl rfl (by decide +kernel) ⟨Nat.le_of_ble_eq_true rfl, Nat.le_of_ble_eq_true rfl⟩) dX7_exchange_32 [0, 1] rfl rfl 0 rfl rfl rfl rfl (Nat.le_of_ble_eq_true rfl) (Nat.zero_le _) (Nat.zero_le _) (fun _ => rfl) (fun r9 u H8 locs hw hP hD hS => ?_)
      try dsimp only at hw
      obtain rfl := hw
      have hP : va_P D vwCl [(mx, .inr (7, [.ref va, .ref vk, .ref vr, .int (nI (min (rl + 1) 4)), .ref vs, .int (nI ik), .int (nI 0), .ref vt, .int (nI tl), .int (nI ta), .int yr, .int ys, .int yo, .int yf, .int ye, .ref vc, .ref vb])), (va, .inl (cY 0, 9, .inl (m_nf (m_all (m_up f k (f j)) cnt)))), (vr, .inl (cY 0, 36, .inl (m_nf rv9_6)))] H8 := hP
      have hD : va_D A [(mx, .inr (7, [.ref va, .ref vk, .ref vr, .int (nI (min (rl + 1) 4)), .ref vs, .int (nI ik), .int (nI 0), .ref vt, .int (nI tl), .int (nI ta), .int yr, .int ys, .int yo, .int yf, .int ye, .ref vc, .ref vb])), (va, .inl (cY 0, 9, .inl (m_nf (m_all (m_up f k (f j)) cnt)))), (vr, .inl (cY 0, 36, .inl (m_nf rv9_6)))] := hD
      refine lv_istore_n (lv' := [(3, .int (nI (f k))), (0, .ref mx), (1, .int (nI k)), (2, .int (nI j))]) hx hb dX7_exchange_35 rfl hl (by decide) rfl (fun ls hl => ?_)
      refine lv_aload_n hx hb dX7_exchange_36 rfl (lv_at hl 1 rfl) ?_
      refine va_get (D := D) (ci := 7) (v := .ref va) (C := RX7) (T := TX7) (N := 17) hx hb hts hwd1 hown hK hP 0 rfl rfl 0 (by decide) hwd0 (fun _ h9 => h9) rfl dX7_exchange_37 ?_
      refine lv_iload_n hx hb dX7_exchange_40 rfl (lv_at hl 3 rfl) ?_
      refine lv_iload_n hx hb dX7_exchange_41 rfl (lv_at hl 0 rfl) ?_
      refine va_iast hx hb hK hP hD hS 1 0 rfl rfl (m_in (n := j) (by first | assumption | omega) (by decide)) dX7_exchange_42 (fun H10 locs hP hD hS => ?_)
      have hP : va_P D vwCl [(mx, .inr (7, [.ref va, .ref vk, .ref vr, .int (nI (min (rl + 1) 4)), .ref vs, .int (nI ik), .int (nI 0), .ref vt, .int (nI tl), .int (nI ta), .int yr, .int ys, .int yo, .int yf, .int ye, .ref vc, .ref vb])), (va, .inl (cY 0, 9, .inl (upd (m_nf (m_all (m_up f k (f j)) cnt)) (nI j).toNatClampNeg (nI (f k))))), (vr, .inl (cY 0, 36, .inl (m_nf rv9_6)))] H10 := hP
      have hD : va_D A [(mx, .inr (7, [.ref va, .ref vk, .ref vr, .int (nI (min (rl + 1) 4)), .ref vs, .int (nI ik), .int (nI 0), .ref vt, .int (nI tl), .int (nI ta), .int yr, .int ys, .int yo, .int yf, .int ye, .ref vc, .ref vb])), (va, .inl (cY 0, 9, .inl (upd (m_nf (m_all (m_up f k (f j)) cnt)) (nI j).toNatClampNeg (nI (f k))))), (vr, .inl (cY 0, 36, .inl (m_nf rv9_6)))] := hD
      rw [m_upd (g := m_all (m_up f k (f j)) cnt) (n := j) (v := f k) (by omega)] at hP hD
      have hP : va_P D vwCl [(mx, .inr (7, [.ref va, .ref vk, .ref vr, .int (nI (min (rl + 1) 4)), .ref vs, .int (nI ik), .int (nI 0), .ref vt, .int (nI tl), .int (nI ta), .int yr, .int ys, .int yo, .int yf, .int ye, .ref vc, .ref vb])), (va, .inl (cY 0, 9, .inl (m_nf (m_up (m_all (m_up f k (f j)) cnt) j (f k))))), (vr, .inl (cY 0, 36, .inl (m_nf rv9_6)))] H10 := hP
      have hD : va_D A [(mx, .inr (7, [.ref va, .ref vk, .ref vr, .int (nI (min (rl + 1) 4)), .ref vs, .int (nI ik), .int (nI 0), .ref vt, .int (nI tl), .int (nI ta), .int yr, .int ys, .int yo, .int yf, .int ye, .ref vc, .ref vb])), (va, .inl (cY 0, 9, .inl (m_nf (m_up (m_all (m_up f k (f j)) cnt) j (f k))))), (vr, .inl (cY 0, 36, .inl (m_nf rv9_6)))] := hD
      rw [show m_nf (m_up (m_all (m_up f k (f j)) cnt) j (f k)) = m_nf (m_all (m_up (m_up f k (f j)) j (f k)) cnt) from congrArg m_nf (m_all_up hj)] at hP hD
      have hP : va_P D vwCl [(mx, .inr (7, [.ref va, .ref vk, .ref vr, .int (nI (min (rl + 1) 4)), .ref vs, .int (nI ik), .int (nI 0), .ref vt, .int (nI tl), .int (nI ta), .int yr, .int ys, .int yo, .int yf, .int ye, .ref vc, .ref vb])), (va, .inl (cY 0, 9, .inl (m_nf (m_all (m_up (m_up f k (f j)) j (f k)) cnt)))), (vr, .inl (cY 0, 36, .inl (m_nf rv9_6)))] H10 := hP
      have hD : va_D A [(mx, .inr (7, [.ref va, .ref vk, .ref vr, .int (nI (min (rl + 1) 4)), .ref vs, .int (nI ik), .int (nI 0), .ref vt, .int (nI tl), .int (nI ta), .int yr, .int ys, .int yo, .int yf, .int ye, .ref vc, .ref vb])), (va, .inl (cY 0, 9, .inl (m_nf (m_all (m_up (m_up f k (f j)) j (f k)) cnt)))), (vr, .inl (cY 0, 36, .inl (m_nf rv9_6)))] := hD
      refine lv_aload_n hx hb dX7_exchange_43 rfl (lv_at hl 1 rfl) ?_
      refine va_get (D := D) (ci := 7) (v := .ref va) (C := RX7) (T := TX7) (N := 17) hx hb hts hwd1 hown hK hP 0 rfl rfl 0 (by decide) hwd0 (fun _ h9 => h9) rfl dX7_exchange_44 ?_
      refine lv_iload_n hx hb dX7_exchange_47 rfl (lv_at hl 2 rfl) ?_
      refine va_iald hx hb hK hP 1 0 rfl rfl (m_in (n := k) (by first | assumption | omega) (by decide)) dX7_exchange_48 ?_
      refine lv_topi (nm_r (m_ldn (g := m_all (m_up (m_up f k (f j)) j (f k)) cnt) (n := k) (by omega)) ?_)
      refine lv_topi (nm_r (congrArg nI ((m_all_lt _ _ hk).trans (show m_up (m_up f k (f j)) j (f k) k = f j from by (by_cases q : k = j); { subst q; rw [m_ups] }; { rw [m_upn _ _ q, m_ups] }))) ?_)
      subst hQ
      exact m_iret C0 hS dX7_exchange_49 (u := rv9_6) hP (⟨rfl, hq7⟩)
    · exact absurd c11 (by decide)
set_option maxHeartbeats 4000000 in
set_option maxRecDepth 100000 in
theorem c_X7_type_f1 (l : Launch) (D : va_G) (cY : Nat → ClassId) (mx va vk vr vs vt vc vb : Nat) (rl ik th tl ta : Nat) (yr ys yo yf ye : Int32) (ch : Nat) (hch : ch < 65536) (htl : tl = 60) : m_Mi l yX7_type wsX7_type 1 21 D cY [.ref mx, .int (nI ch)] [(mx, .inr (7, [.ref va, .ref vk, .ref vr, .int (nI rl), .ref vs, .int (nI ik), .int (nI th), .ref vt, .int (nI tl), .int (nI ta), .int yr, .int ys, .int yo, .int yf, .int ye, .ref vc, .ref vb]))] (fun (res : Int32) (u : Unit) => res = nI 0) (fun (u : Unit) => [(mx, .inr (7, [.ref va, .ref vk, .ref vr, .int (nI rl), .ref vs, .int (nI ik), .int (nI 1), .ref vt, .int (nI tl), .int (nI ta), .int yr, .int ys, .int yo, .int yf, .int ye, .ref vc, .ref vb]))]) := by
  refine m_enterI (cc := cX7_type) (maxL := 2) (ret := (some .int)) (by decide +kernel) rfl (Nat.le_of_ble_eq_true rfl) ?_
  intro p e s m below meth c A ls C0 hP hD hl
  obtain ⟨hx, hb, hr, hml, hts, hown, hlocks, hK, hA⟩ := id C0
  generalize hQ : MQ below _ _ s 0 0 A = Q
  have hS : va_S A s.heap s.heap [] := va_S.rf
  have hl : lv_has ls 2 [(0, .ref mx), (1, .int (nI ch))] := hl
  have hwd0 := hts (.fieldLink RX7 87 "NimberFieldModel" "textLong" "I") (by decide +kernel)
  have hwd1 := (show ∀ w ∈ u_ws RX7 TX7 17, w ∈ wsX7_type from by decide +kernel)
  refine lv_aload_n hx hb dX7_type_0 rfl (lv_at hl 0 rfl) ?_
  refine va_get (D := D) (ci := 7) (v := .int (nI tl)) (C := RX7) (T := TX7) (N := 17) hx hb hts hwd1 hown hK hP 0 rfl rfl 8 (by decide) hwd0 (fun _ h9 => h9) rfl dX7_type_1 ?_
  refine lv_bipush (v := nI 60) hx hb dX7_type_4 (by decide) ?_
  refine lv_icmp_ne (tgt := 15) hx hb dX7_type_6 (by decide) (fun c6 => ?_) (fun c6 => ?_)
  · have c6 : ¬ (tl = 60) := fun qq9 => c6 ((nI_eq (a := tl) (b := 60) (by first | omega | exact Nat.lt_of_le_of_lt Nat.and_le_right (by decide) | exact Nat.lt_trans (nm_lt _ _) (by decide) | exact Nat.lt_trans (np_lt _ _) (by decide) | exact Nat.lt_trans (p_at_lt htx) (by decide)) (by first | omega | exact Nat.lt_of_le_of_lt Nat.and_le_right (by decide) | exact Nat.lt_trans (nm_lt _ _) (by decide) | exact Nat.lt_trans (np_lt _ _) (by decide) | exact Nat.lt_trans (p_at_lt htx) (by decide))).mpr qq9)
    exfalso; omega
  · have c6 : tl = 60 := (nI_eq (a := tl) (b := 60) (by first | omega | exact Nat.lt_of_le_of_lt Nat.and_le_right (by decide) | exact Nat.lt_trans (nm_lt _ _) (by decide) | exact Nat.lt_trans (np_lt _ _) (by decide) | exact Nat.lt_trans (p_at_lt htx) (by decide)) (by first | omega | exact Nat.lt_of_le_of_lt Nat.and_le_right (by decide) | exact Nat.lt_trans (nm_lt _ _) (by decide) | exact Nat.lt_trans (np_lt _ _) (by decide) | exact Nat.lt_trans (p_at_lt htx) (by decide))).mp c6
    refine lv_aload_n hx hb dX7_type_9 rfl (lv_at hl 0 rfl) ?_
    refine lv_iconst (v := nI 1) hx hb dX7_type_10 (by decide) ?_
    refine m_callVi (As := [.int (nI 1)]) (rest := []) C0 hl hP hD hS (c_X7_fails l D cY mx va vk vr vs vt vc vb rl ik th tl ta yr ys yo yf ye 1 ) (cwV 1 hts gX7_type_X7_fails rfl rfl rfl (by decide +kernel) ⟨Nat.le_of_ble_eq_true rfl, Nat.le_of_ble_eq_true rfl⟩) dX7_type_11 [0] rfl rfl 0 rfl rfl rfl rfl (Nat.le_of_ble_eq_true rfl) (Nat.zero_le _) (Nat.zero_le _) (fun _ => rfl) (fun r2 u H1 locs hw hP hD hS => ?_)
    try dsimp only at hw
    obtain rfl := hw
    have hP : va_P D vwCl [(mx, .inr (7, [.ref va, .ref vk, .ref vr, .int (nI rl), .ref vs, .int (nI ik), .int (nI 1), .ref vt, .int (nI tl), .int (nI ta), .int yr, .int ys, .int yo, .int yf, .int ye, .ref vc, .ref vb]))] H1 := hP
    have hD : va_D A [(mx, .inr (7, [.ref va, .ref vk, .ref vr, .int (nI rl), .ref vs, .int (nI ik), .int (nI 1), .ref vt, .int (nI tl), .int (nI ta), .int yr, .int ys, .int yo, .int yf, .int ye, .ref vc, .ref vb]))] := hD
    subst hQ
    exact m_iret C0 hS dX7_type_14 (u := ()) hP (by first | trivial | rfl | omega)
set_option maxHeartbeats 4000000 in
set_option maxRecDepth 100000 in
theorem c_X7_type_ok (l : Launch) (D : va_G) (cY : Nat → ClassId) (mx va vk vr vs vt vc vb : Nat) (rl ik th tl ta : Nat) (yr ys yo yf ye : Int32) (tx : Nat → Nat) (ch : Nat) (hch : ch < 65536) (htl : tl < 60) : m_Mi l yX7_type wsX7_type 0 0 D cY [.ref mx, .int (nI ch)] [(mx, .inr (7, [.ref va, .ref vk, .ref vr, .int (nI rl), .ref vs, .int (nI ik), .int (nI th), .ref vt, .int (nI tl), .int (nI ta), .int yr, .int ys, .int yo, .int yf, .int ye, .ref vc, .ref vb])), (vt, .inl (cY 0, 60, .inl (m_nf tx)))] (fun (res : Int32) (u : Unit) => res = nI (tl + 1)) (fun (u : Unit) => [(mx, .inr (7, [.ref va, .ref vk, .ref vr, .int (nI rl), .ref vs, .int (nI ik), .int (nI 0), .ref vt, .int (nI (tl + 1)), .int (nI ta), .int yr, .int ys, .int yo, .int yf, .int ye, .ref vc, .ref vb])), (vt, .inl (cY 0, 60, .inl (m_nf (m_up tx tl ch))))]) := by
  refine m_enterI (cc := cX7_type) (maxL := 2) (ret := (some .int)) (by decide +kernel) rfl (Nat.le_of_ble_eq_true rfl) ?_
  intro p e s m below meth c A ls C0 hP hD hl
  obtain ⟨hx, hb, hr, hml, hts, hown, hlocks, hK, hA⟩ := id C0
  generalize hQ : MQ below _ _ s 0 0 A = Q
  have hS : va_S A s.heap s.heap [] := va_S.rf
  have hl : lv_has ls 2 [(0, .ref mx), (1, .int (nI ch))] := hl
  have hwd0 := hts (.fieldLink RX7 87 "NimberFieldModel" "textLong" "I") (by decide +kernel)
  have hwd1 := (show ∀ w ∈ u_ws RX7 TX7 17, w ∈ wsX7_type from by decide +kernel)
  have hwd2 := hts (.fieldLink RX7 31 "NimberFieldModel" "thrown" "I") (by decide +kernel)
  have hwd3 := hts (.fieldLink RX7 22 "NimberFieldModel" "text" "[I") (by decide +kernel)
  refine lv_aload_n hx hb dX7_type_0 rfl (lv_at hl 0 rfl) ?_
  refine va_get (D := D) (ci := 7) (v := .int (nI tl)) (C := RX7) (T := TX7) (N := 17) hx hb hts hwd1 hown hK hP 0 rfl rfl 8 (by decide) hwd0 (fun _ h9 => h9) rfl dX7_type_1 ?_
  refine lv_bipush (v := nI 60) hx hb dX7_type_4 (by decide) ?_
  refine lv_icmp_ne (tgt := 15) hx hb dX7_type_6 (by decide) (fun c6 => ?_) (fun c6 => ?_)
  · have c6 : ¬ (tl = 60) := fun qq9 => c6 ((nI_eq (a := tl) (b := 60) (by first | omega | exact Nat.lt_of_le_of_lt Nat.and_le_right (by decide) | exact Nat.lt_trans (nm_lt _ _) (by decide) | exact Nat.lt_trans (np_lt _ _) (by decide) | exact Nat.lt_trans (p_at_lt htx) (by decide)) (by first | omega | exact Nat.lt_of_le_of_lt Nat.and_le_right (by decide) | exact Nat.lt_trans (nm_lt _ _) (by decide) | exact Nat.lt_trans (np_lt _ _) (by decide) | exact Nat.lt_trans (p_at_lt htx) (by decide))).mpr qq9)
    refine lv_aload_n hx hb dX7_type_15 rfl (lv_at hl 0 rfl) ?_
    refine lv_iconst (v := nI 0) hx hb dX7_type_16 (by decide) ?_
    refine va_put (D := D) (ci := 7) (v := .int (nI 0)) (ty := .int) (C := RX7) (T := TX7) (N := 17) hx hb hts hwd1 tyX7 tyX7_ok nmX7 hown hK hP hD hS 0 rfl rfl 6 (by decide) hwd2 (fun _ h9 => h9) rfl (by decide +kernel) rfl rfl (Nat.le_of_ble_eq_true rfl) dX7_type_17 (fun H1 locs hP hD hS => ?_)
    have hP : va_P D vwCl [(mx, .inr (7, [.ref va, .ref vk, .ref vr, .int (nI rl), .ref vs, .int (nI ik), .int (nI 0), .ref vt, .int (nI tl), .int (nI ta), .int yr, .int ys, .int yo, .int yf, .int ye, .ref vc, .ref vb])), (vt, .inl (cY 0, 60, .inl (m_nf tx)))] H1 := hP
    have hD : va_D A [(mx, .inr (7, [.ref va, .ref vk, .ref vr, .int (nI rl), .ref vs, .int (nI ik), .int (nI 0), .ref vt, .int (nI tl), .int (nI ta), .int yr, .int ys, .int yo, .int yf, .int ye, .ref vc, .ref vb])), (vt, .inl (cY 0, 60, .inl (m_nf tx)))] := hD
    refine lv_aload_n hx hb dX7_type_20 rfl (lv_at hl 0 rfl) ?_
    refine va_get (D := D) (ci := 7) (v := .ref vt) (C := RX7) (T := TX7) (N := 17) hx hb hts hwd1 hown hK hP 0 rfl rfl 7 (by decide) hwd3 (fun _ h9 => h9) rfl dX7_type_21 ?_
    refine lv_aload_n hx hb dX7_type_24 rfl (lv_at hl 0 rfl) ?_
    refine va_get (D := D) (ci := 7) (v := .int (nI tl)) (C := RX7) (T := TX7) (N := 17) hx hb hts hwd1 hown hK hP 0 rfl rfl 8 (by decide) hwd0 (fun _ h9 => h9) rfl dX7_type_25 ?_
    refine lv_iload_n hx hb dX7_type_28 rfl (lv_at hl 1 rfl) ?_
    refine va_iast hx hb hK hP hD hS 1 0 rfl rfl (m_in (n := tl) (by first | assumption | omega) (by decide)) dX7_type_29 (fun H2 locs hP hD hS => ?_)
    have hP : va_P D vwCl [(mx, .inr (7, [.ref va, .ref vk, .ref vr, .int (nI rl), .ref vs, .int (nI ik), .int (nI 0), .ref vt, .int (nI tl), .int (nI ta), .int yr, .int ys, .int yo, .int yf, .int ye, .ref vc, .ref vb])), (vt, .inl (cY 0, 60, .inl (upd (m_nf tx) (nI tl).toNatClampNeg (nI ch))))] H2 := hP
    have hD : va_D A [(mx, .inr (7, [.ref va, .ref vk, .ref vr, .int (nI rl), .ref vs, .int (nI ik), .int (nI 0), .ref vt, .int (nI tl), .int (nI ta), .int yr, .int ys, .int yo, .int yf, .int ye, .ref vc, .ref vb])), (vt, .inl (cY 0, 60, .inl (upd (m_nf tx) (nI tl).toNatClampNeg (nI ch))))] := hD
    rw [m_upd (g := tx) (n := tl) (v := ch) (by omega)] at hP hD
    have hP : va_P D vwCl [(mx, .inr (7, [.ref va, .ref vk, .ref vr, .int (nI rl), .ref vs, .int (nI ik), .int (nI 0), .ref vt, .int (nI tl), .int (nI ta), .int yr, .int ys, .int yo, .int yf, .int ye, .ref vc, .ref vb])), (vt, .inl (cY 0, 60, .inl (m_nf (m_up tx tl ch))))] H2 := hP
    have hD : va_D A [(mx, .inr (7, [.ref va, .ref vk, .ref vr, .int (nI rl), .ref vs, .int (nI ik), .int (nI 0), .ref vt, .int (nI tl), .int (nI ta), .int yr, .int ys, .int yo, .int yf, .int ye, .ref vc, .ref vb])), (vt, .inl (cY 0, 60, .inl (m_nf (m_up tx tl ch))))] := hD
    refine lv_aload_n hx hb dX7_type_30 rfl (lv_at hl 0 rfl) ?_
    refine lv_dup hx hb dX7_type_31 rfl ?_
    refine va_get (D := D) (ci := 7) (v := .int (nI tl)) (C := RX7) (T := TX7) (N := 17) hx hb hts hwd1 hown hK hP 0 rfl rfl 8 (by decide) hwd0 (fun _ h9 => h9) rfl dX7_type_32 ?_
    refine lv_iconst (v := nI 1) hx hb dX7_type_35 (by decide) ?_
    refine lv_iadd hx hb dX7_type_36 ?_
    refine lv_topi (nm_r (nI_add _ _) ?_)
    refine va_put (D := D) (ci := 7) (v := .int (nI (tl + 1))) (ty := .int) (C := RX7) (T := TX7) (N := 17) hx hb hts hwd1 tyX7 tyX7_ok nmX7 hown hK hP hD hS 0 rfl rfl 8 (by decide) hwd0 (fun _ h9 => h9) rfl (by decide +kernel) rfl rfl (Nat.le_of_ble_eq_true rfl) dX7_type_37 (fun H3 locs hP hD hS => ?_)
    have hP : va_P D vwCl [(mx, .inr (7, [.ref va, .ref vk, .ref vr, .int (nI rl), .ref vs, .int (nI ik), .int (nI 0), .ref vt, .int (nI (tl + 1)), .int (nI ta), .int yr, .int ys, .int yo, .int yf, .int ye, .ref vc, .ref vb])), (vt, .inl (cY 0, 60, .inl (m_nf (m_up tx tl ch))))] H3 := hP
    have hD : va_D A [(mx, .inr (7, [.ref va, .ref vk, .ref vr, .int (nI rl), .ref vs, .int (nI ik), .int (nI 0), .ref vt, .int (nI (tl + 1)), .int (nI ta), .int yr, .int ys, .int yo, .int yf, .int ye, .ref vc, .ref vb])), (vt, .inl (cY 0, 60, .inl (m_nf (m_up tx tl ch))))] := hD
    refine lv_aload_n hx hb dX7_type_40 rfl (lv_at hl 0 rfl) ?_
    refine va_get (D := D) (ci := 7) (v := .int (nI (tl + 1))) (C := RX7) (T := TX7) (N := 17) hx hb hts hwd1 hown hK hP 0 rfl rfl 8 (by decide) hwd0 (fun _ h9 => h9) rfl dX7_type_41 ?_
    subst hQ
    exact m_iret C0 hS dX7_type_44 (u := ()) hP (by first | trivial | rfl | omega)
  · have c6 : tl = 60 := (nI_eq (a := tl) (b := 60) (by first | omega | exact Nat.lt_of_le_of_lt Nat.and_le_right (by decide) | exact Nat.lt_trans (nm_lt _ _) (by decide) | exact Nat.lt_trans (np_lt _ _) (by decide) | exact Nat.lt_trans (p_at_lt htx) (by decide)) (by first | omega | exact Nat.lt_of_le_of_lt Nat.and_le_right (by decide) | exact Nat.lt_trans (nm_lt _ _) (by decide) | exact Nat.lt_trans (np_lt _ _) (by decide) | exact Nat.lt_trans (p_at_lt htx) (by decide))).mp c6
    exfalso; omega
set_option maxHeartbeats 4000000 in
set_option maxRecDepth 100000 in
theorem c_X7_clearProgram (l : Launch) (D : va_G) (cY : Nat → ClassId) (mx va vk vr vs vt vc vb : Nat) (rl ik th tl ta : Nat) (yr ys yo yf ye : Int32)  : m_Mi l yX7_clearProgram wsX7_clearProgram 0 0 D cY [.ref mx] [(mx, .inr (7, [.ref va, .ref vk, .ref vr, .int (nI rl), .ref vs, .int (nI ik), .int (nI th), .ref vt, .int (nI tl), .int (nI ta), .int yr, .int ys, .int yo, .int yf, .int ye, .ref vc, .ref vb]))] (fun (res : Int32) (u : Unit) => res = nI tl) (fun (u : Unit) => [(mx, .inr (7, [.ref va, .ref vk, .ref vr, .int (nI rl), .ref vs, .int (nI ik), .int (nI 0), .ref vt, .int (nI 0), .int (nI ta), .int yr, .int ys, .int yo, .int yf, .int ye, .ref vc, .ref vb]))]) := by
  refine m_enterI (cc := cX7_clearProgram) (maxL := 2) (ret := (some .int)) (by decide +kernel) rfl (Nat.le_of_ble_eq_true rfl) ?_
  intro p e s m below meth c A ls C0 hP hD hl
  obtain ⟨hx, hb, hr, hml, hts, hown, hlocks, hK, hA⟩ := id C0
  generalize hQ : MQ below _ _ s 0 0 A = Q
  have hS : va_S A s.heap s.heap [] := va_S.rf
  have hl : lv_has ls 2 [(0, .ref mx)] := hl
  have hwd0 := hts (.fieldLink RX7 31 "NimberFieldModel" "thrown" "I") (by decide +kernel)
  have hwd1 := (show ∀ w ∈ u_ws RX7 TX7 17, w ∈ wsX7_clearProgram from by decide +kernel)
  have hwd2 := hts (.fieldLink RX7 87 "NimberFieldModel" "textLong" "I") (by decide +kernel)
  refine lv_aload_n hx hb dX7_clearProgram_0 rfl (lv_at hl 0 rfl) ?_
  refine lv_iconst (v := nI 0) hx hb dX7_clearProgram_1 (by decide) ?_
  refine va_put (D := D) (ci := 7) (v := .int (nI 0)) (ty := .int) (C := RX7) (T := TX7) (N := 17) hx hb hts hwd1 tyX7 tyX7_ok nmX7 hown hK hP hD hS 0 rfl rfl 6 (by decide) hwd0 (fun _ h9 => h9) rfl (by decide +kernel) rfl rfl (Nat.le_of_ble_eq_true rfl) dX7_clearProgram_2 (fun H1 locs hP hD hS => ?_)
  have hP : va_P D vwCl [(mx, .inr (7, [.ref va, .ref vk, .ref vr, .int (nI rl), .ref vs, .int (nI ik), .int (nI 0), .ref vt, .int (nI tl), .int (nI ta), .int yr, .int ys, .int yo, .int yf, .int ye, .ref vc, .ref vb]))] H1 := hP
  have hD : va_D A [(mx, .inr (7, [.ref va, .ref vk, .ref vr, .int (nI rl), .ref vs, .int (nI ik), .int (nI 0), .ref vt, .int (nI tl), .int (nI ta), .int yr, .int ys, .int yo, .int yf, .int ye, .ref vc, .ref vb]))] := hD
  refine lv_aload_n hx hb dX7_clearProgram_5 rfl (lv_at hl 0 rfl) ?_
  refine va_get (D := D) (ci := 7) (v := .int (nI tl)) (C := RX7) (T := TX7) (N := 17) hx hb hts hwd1 hown hK hP 0 rfl rfl 8 (by decide) hwd2 (fun _ h9 => h9) rfl dX7_clearProgram_6 ?_
  refine lv_istore_n (lv' := [(1, .int (nI tl)), (0, .ref mx)]) hx hb dX7_clearProgram_9 rfl hl (by decide) rfl (fun ls hl => ?_)
  refine lv_aload_n hx hb dX7_clearProgram_10 rfl (lv_at hl 1 rfl) ?_
  refine lv_iconst (v := nI 0) hx hb dX7_clearProgram_11 (by decide) ?_
  refine va_put (D := D) (ci := 7) (v := .int (nI 0)) (ty := .int) (C := RX7) (T := TX7) (N := 17) hx hb hts hwd1 tyX7 tyX7_ok nmX7 hown hK hP hD hS 0 rfl rfl 8 (by decide) hwd2 (fun _ h9 => h9) rfl (by decide +kernel) rfl rfl (Nat.le_of_ble_eq_true rfl) dX7_clearProgram_12 (fun H2 locs hP hD hS => ?_)
  have hP : va_P D vwCl [(mx, .inr (7, [.ref va, .ref vk, .ref vr, .int (nI rl), .ref vs, .int (nI ik), .int (nI 0), .ref vt, .int (nI 0), .int (nI ta), .int yr, .int ys, .int yo, .int yf, .int ye, .ref vc, .ref vb]))] H2 := hP
  have hD : va_D A [(mx, .inr (7, [.ref va, .ref vk, .ref vr, .int (nI rl), .ref vs, .int (nI ik), .int (nI 0), .ref vt, .int (nI 0), .int (nI ta), .int yr, .int ys, .int yo, .int yf, .int ye, .ref vc, .ref vb]))] := hD
  refine lv_iload_n hx hb dX7_clearProgram_15 rfl (lv_at hl 0 rfl) ?_
  subst hQ
  exact m_iret C0 hS dX7_clearProgram_16 (u := ()) hP (by first | trivial | rfl | omega)
set_option maxHeartbeats 4000000 in
set_option maxRecDepth 100000 in
theorem c_X7_programError_f (l : Launch) (D : va_G) (cY : Nat → ClassId) (mx va vk vr vs vt vc vb : Nat) (rl ik th tl ta : Nat) (yr ys yo yf ye : Int32) (tx : Nat → Nat) (w : Nat) (htl : tl ≤ 60) (htx : ∀ j, tx j < 65536) (hv : p_prog tx tl 15 0 = .inl w) : m_Mi l yX7_programError wsX7_programError 5 111 D cY [.ref mx] [(mx, .inr (7, [.ref va, .ref vk, .ref vr, .int (nI rl), .ref vs, .int (nI ik), .int (nI th), .ref vt, .int (nI tl), .int (nI ta), .int yr, .int ys, .int yo, .int yf, .int ye, .ref vc, .ref vb])), (vt, .inl (cY 0, 60, .inl (m_nf tx)))] (fun (res : Int32) (u : Nat × Int32 × Int32 × Int32 × Int32 × Int32) => res = nI w) (fun (u : Nat × Int32 × Int32 × Int32 × Int32 × Int32) => [(mx, .inr (7, [.ref va, .ref vk, .ref vr, .int (nI rl), .ref vs, .int (nI ik), .int (nI 0), .ref vt, .int (nI tl), .int (nI u.1), .int u.2.1, .int u.2.2.1, .int u.2.2.2.1, .int u.2.2.2.2.1, .int u.2.2.2.2.2, .ref vc, .ref vb])), (vt, .inl (cY 0, 60, .inl (m_nf tx)))]) := by
  refine m_enterI (cc := cX7_programError) (maxL := 1) (ret := (some .int)) (by decide +kernel) rfl (Nat.le_of_ble_eq_true rfl) ?_
  intro p e s m below meth c A ls C0 hP hD hl
  obtain ⟨hx, hb, hr, hml, hts, hown, hlocks, hK, hA⟩ := id C0
  generalize hQ : MQ below _ _ s 0 0 A = Q
  have hS : va_S A s.heap s.heap [] := va_S.rf
  have hl : lv_has ls 1 [(0, .ref mx)] := hl
  refine lv_aload_n hx hb dX7_programError_0 rfl (lv_at hl 0 rfl) ?_
  refine lv_aload_n hx hb dX7_programError_1 rfl (lv_at hl 0 rfl) ?_
  refine m_callVi (As := []) (rest := [.ref mx]) C0 hl hP hD hS (c_X7_errorOfProgram l D cY mx va vk vr vs vt vc vb rl ik th tl ta yr ys yo yf ye tx (by first | assumption | omega | exact nm_lt _ _ | exact np_lt _ _ | decide) (by first | assumption | omega | exact nm_lt _ _ | exact np_lt _ _ | decide)) (cwV 0 hts gX7_programError_X7_errorOfProgram rfl rfl rfl (by decide +kernel) ⟨Nat.le_of_ble_eq_true rfl, Nat.le_of_ble_eq_true rfl⟩) dX7_programError_2 [0, 1] rfl rfl 0 rfl rfl rfl rfl (Nat.le_of_ble_eq_true rfl) (Nat.zero_le _) (Nat.zero_le _) (fun _ => rfl) (fun r8 u H1 locs hw hP hD hS => ?_)
  obtain ⟨ta9_2, yr9_3, ys9_4, yo9_5, yf9_6, ye9_7⟩ := u
  try dsimp only at hw
  have hq9 := hw; clear hw
  have hP : va_P D vwCl [(mx, .inr (7, [.ref va, .ref vk, .ref vr, .int (nI rl), .ref vs, .int (nI ik), .int (nI th), .ref vt, .int (nI tl), .int (nI ta9_2), .int yr9_3, .int ys9_4, .int yo9_5, .int yf9_6, .int ye9_7, .ref vc, .ref vb])), (vt, .inl (cY 0, 60, .inl (m_nf tx)))] H1 := hP
  have hD : va_D A [(mx, .inr (7, [.ref va, .ref vk, .ref vr, .int (nI rl), .ref vs, .int (nI ik), .int (nI th), .ref vt, .int (nI tl), .int (nI ta9_2), .int yr9_3, .int ys9_4, .int yo9_5, .int yf9_6, .int ye9_7, .ref vc, .ref vb])), (vt, .inl (cY 0, 60, .inl (m_nf tx)))] := hD
  rcases hq9 with ⟨w9, rfl, hw60, hz⟩ | ⟨ps9, rfl, hz⟩
  · skip
    have hw9 : w9 = w := by (have h9 := hv.symm.trans hz); cases h9; rfl
    subst hw9
    refine m_callVi (As := [.int (nI w9)]) (rest := []) C0 hl hP hD hS (c_X7_told l D cY mx va vk vr vs vt vc vb rl ik th tl ta9_2 yr9_3 ys9_4 yo9_5 yf9_6 ye9_7 (nI w9) ) (cwV 1 hts gX7_programError_X7_told rfl rfl rfl (by decide +kernel) ⟨Nat.le_of_ble_eq_true rfl, Nat.le_of_ble_eq_true rfl⟩) dX7_programError_5 [0] rfl rfl 0 rfl rfl rfl rfl (Nat.le_of_ble_eq_true rfl) (Nat.zero_le _) (Nat.zero_le _) (fun _ => rfl) (fun r11 u H10 locs hw hP hD hS => ?_)
    try dsimp only at hw
    obtain rfl := hw
    have hP : va_P D vwCl [(mx, .inr (7, [.ref va, .ref vk, .ref vr, .int (nI rl), .ref vs, .int (nI ik), .int (nI 0), .ref vt, .int (nI tl), .int (nI ta9_2), .int yr9_3, .int ys9_4, .int yo9_5, .int yf9_6, .int ye9_7, .ref vc, .ref vb])), (vt, .inl (cY 0, 60, .inl (m_nf tx)))] H10 := hP
    have hD : va_D A [(mx, .inr (7, [.ref va, .ref vk, .ref vr, .int (nI rl), .ref vs, .int (nI ik), .int (nI 0), .ref vt, .int (nI tl), .int (nI ta9_2), .int yr9_3, .int ys9_4, .int yo9_5, .int yf9_6, .int ye9_7, .ref vc, .ref vb])), (vt, .inl (cY 0, 60, .inl (m_nf tx)))] := hD
    subst hQ
    exact m_iret C0 hS dX7_programError_8 (u := (ta9_2, yr9_3, ys9_4, yo9_5, yf9_6, ye9_7)) hP (rfl)
  · skip
    exact absurd (hv.symm.trans hz) (by intro h; cases h)
set_option maxHeartbeats 4000000 in
set_option maxRecDepth 100000 in
theorem c_X7_programError_ok (l : Launch) (D : va_G) (cY : Nat → ClassId) (mx va vk vr vs vt vc vb : Nat) (rl ik th tl ta : Nat) (yr ys yo yf ye : Int32) (tx : Nat → Nat) (ps : List p_St) (htl : tl ≤ 60) (htx : ∀ j, tx j < 65536) (hv : p_prog tx tl 15 0 = .inr ps) : m_Mi l yX7_programError wsX7_programError 5 111 D cY [.ref mx] [(mx, .inr (7, [.ref va, .ref vk, .ref vr, .int (nI rl), .ref vs, .int (nI ik), .int (nI th), .ref vt, .int (nI tl), .int (nI ta), .int yr, .int ys, .int yo, .int yf, .int ye, .ref vc, .ref vb])), (vt, .inl (cY 0, 60, .inl (m_nf tx)))] (fun (res : Int32) (u : Nat × Int32 × Int32 × Int32 × Int32 × Int32) => res = (-1)) (fun (u : Nat × Int32 × Int32 × Int32 × Int32 × Int32) => [(mx, .inr (7, [.ref va, .ref vk, .ref vr, .int (nI rl), .ref vs, .int (nI ik), .int (nI 0), .ref vt, .int (nI tl), .int (nI u.1), .int u.2.1, .int u.2.2.1, .int u.2.2.2.1, .int u.2.2.2.2.1, .int u.2.2.2.2.2, .ref vc, .ref vb])), (vt, .inl (cY 0, 60, .inl (m_nf tx)))]) := by
  refine m_enterI (cc := cX7_programError) (maxL := 1) (ret := (some .int)) (by decide +kernel) rfl (Nat.le_of_ble_eq_true rfl) ?_
  intro p e s m below meth c A ls C0 hP hD hl
  obtain ⟨hx, hb, hr, hml, hts, hown, hlocks, hK, hA⟩ := id C0
  generalize hQ : MQ below _ _ s 0 0 A = Q
  have hS : va_S A s.heap s.heap [] := va_S.rf
  have hl : lv_has ls 1 [(0, .ref mx)] := hl
  refine lv_aload_n hx hb dX7_programError_0 rfl (lv_at hl 0 rfl) ?_
  refine lv_aload_n hx hb dX7_programError_1 rfl (lv_at hl 0 rfl) ?_
  refine m_callVi (As := []) (rest := [.ref mx]) C0 hl hP hD hS (c_X7_errorOfProgram l D cY mx va vk vr vs vt vc vb rl ik th tl ta yr ys yo yf ye tx (by first | assumption | omega | exact nm_lt _ _ | exact np_lt _ _ | decide) (by first | assumption | omega | exact nm_lt _ _ | exact np_lt _ _ | decide)) (cwV 0 hts gX7_programError_X7_errorOfProgram rfl rfl rfl (by decide +kernel) ⟨Nat.le_of_ble_eq_true rfl, Nat.le_of_ble_eq_true rfl⟩) dX7_programError_2 [0, 1] rfl rfl 0 rfl rfl rfl rfl (Nat.le_of_ble_eq_true rfl) (Nat.zero_le _) (Nat.zero_le _) (fun _ => rfl) (fun r8 u H1 locs hw hP hD hS => ?_)
  obtain ⟨ta9_2, yr9_3, ys9_4, yo9_5, yf9_6, ye9_7⟩ := u
  try dsimp only at hw
  have hq9 := hw; clear hw
  have hP : va_P D vwCl [(mx, .inr (7, [.ref va, .ref vk, .ref vr, .int (nI rl), .ref vs, .int (nI ik), .int (nI th), .ref vt, .int (nI tl), .int (nI ta9_2), .int yr9_3, .int ys9_4, .int yo9_5, .int yf9_6, .int ye9_7, .ref vc, .ref vb])), (vt, .inl (cY 0, 60, .inl (m_nf tx)))] H1 := hP
  have hD : va_D A [(mx, .inr (7, [.ref va, .ref vk, .ref vr, .int (nI rl), .ref vs, .int (nI ik), .int (nI th), .ref vt, .int (nI tl), .int (nI ta9_2), .int yr9_3, .int ys9_4, .int yo9_5, .int yf9_6, .int ye9_7, .ref vc, .ref vb])), (vt, .inl (cY 0, 60, .inl (m_nf tx)))] := hD
  rcases hq9 with ⟨w9, rfl, hw60, hz⟩ | ⟨ps9, rfl, hz⟩
  · skip
    exact absurd (hv.symm.trans hz) (by intro h; cases h)
  · skip
    refine m_callVi (As := [.int (-1)]) (rest := []) C0 hl hP hD hS (c_X7_told l D cY mx va vk vr vs vt vc vb rl ik th tl ta9_2 yr9_3 ys9_4 yo9_5 yf9_6 ye9_7 (-1) ) (cwV 1 hts gX7_programError_X7_told rfl rfl rfl (by decide +kernel) ⟨Nat.le_of_ble_eq_true rfl, Nat.le_of_ble_eq_true rfl⟩) dX7_programError_5 [0] rfl rfl 0 rfl rfl rfl rfl (Nat.le_of_ble_eq_true rfl) (Nat.zero_le _) (Nat.zero_le _) (fun _ => rfl) (fun r11 u H10 locs hw hP hD hS => ?_)
    try dsimp only at hw
    obtain rfl := hw
    have hP : va_P D vwCl [(mx, .inr (7, [.ref va, .ref vk, .ref vr, .int (nI rl), .ref vs, .int (nI ik), .int (nI 0), .ref vt, .int (nI tl), .int (nI ta9_2), .int yr9_3, .int ys9_4, .int yo9_5, .int yf9_6, .int ye9_7, .ref vc, .ref vb])), (vt, .inl (cY 0, 60, .inl (m_nf tx)))] H10 := hP
    have hD : va_D A [(mx, .inr (7, [.ref va, .ref vk, .ref vr, .int (nI rl), .ref vs, .int (nI ik), .int (nI 0), .ref vt, .int (nI tl), .int (nI ta9_2), .int yr9_3, .int ys9_4, .int yo9_5, .int yf9_6, .int ye9_7, .ref vc, .ref vb])), (vt, .inl (cY 0, 60, .inl (m_nf tx)))] := hD
    subst hQ
    exact m_iret C0 hS dX7_programError_8 (u := (ta9_2, yr9_3, ys9_4, yo9_5, yf9_6, ye9_7)) hP (rfl)
set_option maxHeartbeats 4000000 in
set_option maxRecDepth 100000 in
theorem c_X7_trappedStep_f (l : Launch) (D : va_G) (cY : Nat → ClassId) (mx va vk vr vs vt vc vb : Nat) (rl ik th tl ta : Nat) (yr ys yo yf ye : Int32) (tx : Nat → Nat) (w : Nat) (htl : tl ≤ 60) (htx : ∀ j, tx j < 65536) (hv : p_prog tx tl 15 0 = .inl w) : m_Mi l yX7_trappedStep wsX7_trappedStep 5 111 D cY [.ref mx] [(mx, .inr (7, [.ref va, .ref vk, .ref vr, .int (nI rl), .ref vs, .int (nI ik), .int (nI th), .ref vt, .int (nI tl), .int (nI ta), .int yr, .int ys, .int yo, .int yf, .int ye, .ref vc, .ref vb])), (vt, .inl (cY 0, 60, .inl (m_nf tx)))] (fun (res : Int32) (u : Nat × Int32 × Int32 × Int32 × Int32 × Int32) => res = nI 0) (fun (u : Nat × Int32 × Int32 × Int32 × Int32 × Int32) => [(mx, .inr (7, [.ref va, .ref vk, .ref vr, .int (nI rl), .ref vs, .int (nI ik), .int (nI 1), .ref vt, .int (nI tl), .int (nI u.1), .int u.2.1, .int u.2.2.1, .int u.2.2.2.1, .int u.2.2.2.2.1, .int u.2.2.2.2.2, .ref vc, .ref vb])), (vt, .inl (cY 0, 60, .inl (m_nf tx)))]) := by
  refine m_enterI (cc := cX7_trappedStep) (maxL := 1) (ret := (some .int)) (by decide +kernel) rfl (Nat.le_of_ble_eq_true rfl) ?_
  intro p e s m below meth c A ls C0 hP hD hl
  obtain ⟨hx, hb, hr, hml, hts, hown, hlocks, hK, hA⟩ := id C0
  generalize hQ : MQ below _ _ s 0 0 A = Q
  have hS : va_S A s.heap s.heap [] := va_S.rf
  have hl : lv_has ls 1 [(0, .ref mx)] := hl
  refine lv_aload_n hx hb dX7_trappedStep_0 rfl (lv_at hl 0 rfl) ?_
  refine m_callVi (As := []) (rest := []) C0 hl hP hD hS (c_X7_errorOfProgram l D cY mx va vk vr vs vt vc vb rl ik th tl ta yr ys yo yf ye tx (by first | assumption | omega | exact nm_lt _ _ | exact np_lt _ _ | decide) (by first | assumption | omega | exact nm_lt _ _ | exact np_lt _ _ | decide)) (cwV 0 hts gX7_trappedStep_X7_errorOfProgram rfl rfl rfl (by decide +kernel) ⟨Nat.le_of_ble_eq_true rfl, Nat.le_of_ble_eq_true rfl⟩) dX7_trappedStep_1 [0, 1] rfl rfl 0 rfl rfl rfl rfl (Nat.le_of_ble_eq_true rfl) (Nat.zero_le _) (Nat.zero_le _) (fun _ => rfl) (fun r8 u H1 locs hw hP hD hS => ?_)
  obtain ⟨ta9_2, yr9_3, ys9_4, yo9_5, yf9_6, ye9_7⟩ := u
  try dsimp only at hw
  have hq9 := hw; clear hw
  have hP : va_P D vwCl [(mx, .inr (7, [.ref va, .ref vk, .ref vr, .int (nI rl), .ref vs, .int (nI ik), .int (nI th), .ref vt, .int (nI tl), .int (nI ta9_2), .int yr9_3, .int ys9_4, .int yo9_5, .int yf9_6, .int ye9_7, .ref vc, .ref vb])), (vt, .inl (cY 0, 60, .inl (m_nf tx)))] H1 := hP
  have hD : va_D A [(mx, .inr (7, [.ref va, .ref vk, .ref vr, .int (nI rl), .ref vs, .int (nI ik), .int (nI th), .ref vt, .int (nI tl), .int (nI ta9_2), .int yr9_3, .int ys9_4, .int yo9_5, .int yf9_6, .int ye9_7, .ref vc, .ref vb])), (vt, .inl (cY 0, 60, .inl (m_nf tx)))] := hD
  rcases hq9 with ⟨w9, rfl, hw60, hz⟩ | ⟨ps9, rfl, hz⟩
  · skip
    have hw9 : w9 = w := by (have h9 := hv.symm.trans hz); cases h9; rfl
    subst hw9
    refine lv_iconst (v := (-1)) hx hb dX7_trappedStep_4 (by decide) ?_
    refine lv_icmp_ne (tgt := 19) hx hb dX7_trappedStep_5 (by decide) (fun c5 => ?_) (fun c5 => ?_)
    · have c5 := c5
      refine lv_aload_n hx hb dX7_trappedStep_19 rfl (lv_at hl 0 rfl) ?_
      refine lv_iconst (v := nI 1) hx hb dX7_trappedStep_20 (by decide) ?_
      refine m_callVi (As := [.int (nI 1)]) (rest := []) C0 hl hP hD hS (c_X7_fails l D cY mx va vk vr vs vt vc vb rl ik th tl ta9_2 yr9_3 ys9_4 yo9_5 yf9_6 ye9_7 1 ) (cwV 1 hts gX7_trappedStep_X7_fails rfl rfl rfl (by decide +kernel) ⟨Nat.le_of_ble_eq_true rfl, Nat.le_of_ble_eq_true rfl⟩) dX7_trappedStep_21 [0] rfl rfl 0 rfl rfl rfl rfl (Nat.le_of_ble_eq_true rfl) (Nat.zero_le _) (Nat.zero_le _) (fun _ => rfl) (fun r11 u H10 locs hw hP hD hS => ?_)
      try dsimp only at hw
      obtain rfl := hw
      have hP : va_P D vwCl [(mx, .inr (7, [.ref va, .ref vk, .ref vr, .int (nI rl), .ref vs, .int (nI ik), .int (nI 1), .ref vt, .int (nI tl), .int (nI ta9_2), .int yr9_3, .int ys9_4, .int yo9_5, .int yf9_6, .int ye9_7, .ref vc, .ref vb])), (vt, .inl (cY 0, 60, .inl (m_nf tx)))] H10 := hP
      have hD : va_D A [(mx, .inr (7, [.ref va, .ref vk, .ref vr, .int (nI rl), .ref vs, .int (nI ik), .int (nI 1), .ref vt, .int (nI tl), .int (nI ta9_2), .int yr9_3, .int ys9_4, .int yo9_5, .int yf9_6, .int ye9_7, .ref vc, .ref vb])), (vt, .inl (cY 0, 60, .inl (m_nf tx)))] := hD
      subst hQ
      exact m_iret C0 hS dX7_trappedStep_24 (u := (ta9_2, yr9_3, ys9_4, yo9_5, yf9_6, ye9_7)) hP (rfl)
    · have c5 := c5
      exfalso; exact n_nem1 (by omega) c5
  · skip
    exact absurd (hv.symm.trans hz) (by intro h; cases h)
set_option maxHeartbeats 4000000 in
set_option maxRecDepth 100000 in
theorem c_X7_trappedStep_ok (l : Launch) (D : va_G) (cY : Nat → ClassId) (mx va vk vr vs vt vc vb : Nat) (rl ik th tl ta : Nat) (yr ys yo yf ye : Int32) (tx : Nat → Nat) (f : Nat → Nat) (cnt : Nat) (ps : List p_St) (kf : Nat → Nat) (kc : Nat) (htl : tl ≤ 60) (htx : ∀ j, tx j < 65536) (hv : p_prog tx tl 15 0 = .inr ps) (hf8 : m_z 8 f) (hf16 : ∀ j, f j < 65536) : m_Mi l yX7_trappedStep wsX7_trappedStep 9 206 D cY [.ref mx] [(mx, .inr (7, [.ref va, .ref vk, .ref vr, .int (nI rl), .ref vs, .int (nI ik), .int (nI th), .ref vt, .int (nI tl), .int (nI ta), .int yr, .int ys, .int yo, .int yf, .int ye, .ref vc, .ref vb])), (va, .inl (cY 0, 9, .inl (m_nf (m_all f cnt)))), (vk, .inl (cY 0, 9, .inl (m_nf (m_all kf kc)))), (vt, .inl (cY 0, 60, .inl (m_nf tx)))] (fun (res : Int32) (u : Nat × Int32 × Int32 × Int32 × Int32 × Int32) => res = (p_run ps 0 f cnt).1) (fun (u : Nat × Int32 × Int32 × Int32 × Int32 × Int32) => [(mx, .inr (7, [.ref va, .ref vk, .ref vr, .int (nI rl), .ref vs, .int (nI ik), .int (nI 0), .ref vt, .int (nI tl), .int (nI u.1), .int u.2.1, .int u.2.2.1, .int u.2.2.2.1, .int u.2.2.2.2.1, .int u.2.2.2.2.2, .ref vc, .ref vb])), (va, .inl (cY 0, 9, .inl (m_nf (m_all f cnt)))), (vk, .inl (cY 0, 9, .inl (m_nf (m_all f cnt)))), (vt, .inl (cY 0, 60, .inl (m_nf tx)))]) := by
  refine m_enterI (cc := cX7_trappedStep) (maxL := 1) (ret := (some .int)) (by decide +kernel) rfl (Nat.le_of_ble_eq_true rfl) ?_
  intro p e s m below meth c A ls C0 hP hD hl
  obtain ⟨hx, hb, hr, hml, hts, hown, hlocks, hK, hA⟩ := id C0
  generalize hQ : MQ below _ _ s 0 0 A = Q
  have hS : va_S A s.heap s.heap [] := va_S.rf
  have hl : lv_has ls 1 [(0, .ref mx)] := hl
  refine lv_aload_n hx hb dX7_trappedStep_0 rfl (lv_at hl 0 rfl) ?_
  refine m_callVi (As := []) (rest := []) C0 hl hP hD hS (c_X7_errorOfProgram l D cY mx va vk vr vs vt vc vb rl ik th tl ta yr ys yo yf ye tx (by first | assumption | omega | exact nm_lt _ _ | exact np_lt _ _ | decide) (by first | assumption | omega | exact nm_lt _ _ | exact np_lt _ _ | decide)) (cwV 0 hts gX7_trappedStep_X7_errorOfProgram rfl rfl rfl (by decide +kernel) ⟨Nat.le_of_ble_eq_true rfl, Nat.le_of_ble_eq_true rfl⟩) dX7_trappedStep_1 [0, 3] rfl rfl 0 rfl rfl rfl rfl (Nat.le_of_ble_eq_true rfl) (Nat.zero_le _) (Nat.zero_le _) (fun _ => rfl) (fun r8 u H1 locs hw hP hD hS => ?_)
  obtain ⟨ta9_2, yr9_3, ys9_4, yo9_5, yf9_6, ye9_7⟩ := u
  try dsimp only at hw
  have hq9 := hw; clear hw
  have hP : va_P D vwCl [(mx, .inr (7, [.ref va, .ref vk, .ref vr, .int (nI rl), .ref vs, .int (nI ik), .int (nI th), .ref vt, .int (nI tl), .int (nI ta9_2), .int yr9_3, .int ys9_4, .int yo9_5, .int yf9_6, .int ye9_7, .ref vc, .ref vb])), (va, .inl (cY 0, 9, .inl (m_nf (m_all f cnt)))), (vk, .inl (cY 0, 9, .inl (m_nf (m_all kf kc)))), (vt, .inl (cY 0, 60, .inl (m_nf tx)))] H1 := hP
  have hD : va_D A [(mx, .inr (7, [.ref va, .ref vk, .ref vr, .int (nI rl), .ref vs, .int (nI ik), .int (nI th), .ref vt, .int (nI tl), .int (nI ta9_2), .int yr9_3, .int ys9_4, .int yo9_5, .int yf9_6, .int ye9_7, .ref vc, .ref vb])), (va, .inl (cY 0, 9, .inl (m_nf (m_all f cnt)))), (vk, .inl (cY 0, 9, .inl (m_nf (m_all kf kc)))), (vt, .inl (cY 0, 60, .inl (m_nf tx)))] := hD
  rcases hq9 with ⟨w9, rfl, hw60, hz⟩ | ⟨ps9, rfl, hz⟩
  · skip
    exact absurd (hv.symm.trans hz) (by intro h; cases h)
  · skip
    refine lv_iconst (v := (-1)) hx hb dX7_trappedStep_4 (by decide) ?_
    refine lv_icmp_ne (tgt := 19) hx hb dX7_trappedStep_5 (by decide) (fun c5 => ?_) (fun c5 => ?_)
    · have c5 := c5
      exfalso; exact c5 rfl
    · have c5 := c5
      refine lv_aload_n hx hb dX7_trappedStep_8 rfl (lv_at hl 0 rfl) ?_
      refine lv_aload_n hx hb dX7_trappedStep_9 rfl (lv_at hl 0 rfl) ?_
      refine m_callVi (As := []) (rest := [.ref mx]) C0 hl hP hD hS (c_X7_tries l D cY mx va vk vr vs vt vc vb rl ik th tl ta9_2 yr9_3 ys9_4 yo9_5 yf9_6 ye9_7 tx f cnt ps kf kc (by first | assumption | omega | exact nm_lt _ _ | exact np_lt _ _ | decide) (by first | assumption | omega | exact nm_lt _ _ | exact np_lt _ _ | decide) (by first | assumption | omega | exact nm_lt _ _ | exact np_lt _ _ | decide) (by first | assumption | omega | exact nm_lt _ _ | exact np_lt _ _ | decide) (by first | assumption | omega | exact nm_lt _ _ | exact np_lt _ _ | decide)) (cwV 0 hts gX7_trappedStep_X7_tries rfl rfl rfl (by decide +kernel) ⟨Nat.le_of_ble_eq_true rfl, Nat.le_of_ble_eq_true rfl⟩) dX7_trappedStep_10 [0, 1, 2, 3] rfl rfl 0 rfl rfl rfl rfl (Nat.le_of_ble_eq_true rfl) (Nat.zero_le _) (Nat.zero_le _) (fun _ => rfl) (fun r17 u H10 locs hw hP hD hS => ?_)
      obtain ⟨ta9_11, yr9_12, ys9_13, yo9_14, yf9_15, ye9_16⟩ := u
      try dsimp only at hw
      obtain rfl := hw
      have hP : va_P D vwCl [(mx, .inr (7, [.ref va, .ref vk, .ref vr, .int (nI rl), .ref vs, .int (nI ik), .int (nI th), .ref vt, .int (nI tl), .int (nI ta9_11), .int yr9_12, .int ys9_13, .int yo9_14, .int yf9_15, .int ye9_16, .ref vc, .ref vb])), (va, .inl (cY 0, 9, .inl (m_nf (m_all f cnt)))), (vk, .inl (cY 0, 9, .inl (m_nf (m_all f cnt)))), (vt, .inl (cY 0, 60, .inl (m_nf tx)))] H10 := hP
      have hD : va_D A [(mx, .inr (7, [.ref va, .ref vk, .ref vr, .int (nI rl), .ref vs, .int (nI ik), .int (nI th), .ref vt, .int (nI tl), .int (nI ta9_11), .int yr9_12, .int ys9_13, .int yo9_14, .int yf9_15, .int ye9_16, .ref vc, .ref vb])), (va, .inl (cY 0, 9, .inl (m_nf (m_all f cnt)))), (vk, .inl (cY 0, 9, .inl (m_nf (m_all f cnt)))), (vt, .inl (cY 0, 60, .inl (m_nf tx)))] := hD
      refine m_callVi (As := [.int ((p_run ps 0 f cnt).1)]) (rest := []) C0 hl hP hD hS (c_X7_told l D cY mx va vk vr vs vt vc vb rl ik th tl ta9_11 yr9_12 ys9_13 yo9_14 yf9_15 ye9_16 ((p_run ps 0 f cnt).1) ) (cwV 1 hts gX7_trappedStep_X7_told rfl rfl rfl (by decide +kernel) ⟨Nat.le_of_ble_eq_true rfl, Nat.le_of_ble_eq_true rfl⟩) dX7_trappedStep_13 [0] rfl rfl 0 rfl rfl rfl rfl (Nat.le_of_ble_eq_true rfl) (Nat.zero_le _) (Nat.zero_le _) (fun _ => rfl) (fun r19 u H18 locs hw hP hD hS => ?_)
      try dsimp only at hw
      obtain rfl := hw
      have hP : va_P D vwCl [(mx, .inr (7, [.ref va, .ref vk, .ref vr, .int (nI rl), .ref vs, .int (nI ik), .int (nI 0), .ref vt, .int (nI tl), .int (nI ta9_11), .int yr9_12, .int ys9_13, .int yo9_14, .int yf9_15, .int ye9_16, .ref vc, .ref vb])), (va, .inl (cY 0, 9, .inl (m_nf (m_all f cnt)))), (vk, .inl (cY 0, 9, .inl (m_nf (m_all f cnt)))), (vt, .inl (cY 0, 60, .inl (m_nf tx)))] H18 := hP
      have hD : va_D A [(mx, .inr (7, [.ref va, .ref vk, .ref vr, .int (nI rl), .ref vs, .int (nI ik), .int (nI 0), .ref vt, .int (nI tl), .int (nI ta9_11), .int yr9_12, .int ys9_13, .int yo9_14, .int yf9_15, .int ye9_16, .ref vc, .ref vb])), (va, .inl (cY 0, 9, .inl (m_nf (m_all f cnt)))), (vk, .inl (cY 0, 9, .inl (m_nf (m_all f cnt)))), (vt, .inl (cY 0, 60, .inl (m_nf tx)))] := hD
      refine lv_goto (tgt := 24) hx hb dX7_trappedStep_16 (by decide) ?_
      subst hQ
      exact m_iret C0 hS dX7_trappedStep_24 (u := (ta9_11, yr9_12, ys9_13, yo9_14, yf9_15, ye9_16)) hP (rfl)
set_option maxHeartbeats 4000000 in
set_option maxRecDepth 100000 in
theorem c_X7_carryOut_f1 (l : Launch) (D : va_G) (cY : Nat → ClassId) (mx va vk vr vs vt vc vb : Nat) (rl ik th tl ta : Nat) (yr ys yo yf ye : Int32) (tx : Nat → Nat) (w : Nat) (htl : tl ≤ 60) (htx : ∀ j, tx j < 65536) (hv : p_prog tx tl 15 0 = .inl w) : m_Mi l yX7_carryOut wsX7_carryOut 5 111 D cY [.ref mx] [(mx, .inr (7, [.ref va, .ref vk, .ref vr, .int (nI rl), .ref vs, .int (nI ik), .int (nI th), .ref vt, .int (nI tl), .int (nI ta), .int yr, .int ys, .int yo, .int yf, .int ye, .ref vc, .ref vb])), (vt, .inl (cY 0, 60, .inl (m_nf tx)))] (fun (res : Int32) (u : Nat × Int32 × Int32 × Int32 × Int32 × Int32) => res = nI 0) (fun (u : Nat × Int32 × Int32 × Int32 × Int32 × Int32) => [(mx, .inr (7, [.ref va, .ref vk, .ref vr, .int (nI rl), .ref vs, .int (nI ik), .int (nI 1), .ref vt, .int (nI tl), .int (nI u.1), .int u.2.1, .int u.2.2.1, .int u.2.2.2.1, .int u.2.2.2.2.1, .int u.2.2.2.2.2, .ref vc, .ref vb])), (vt, .inl (cY 0, 60, .inl (m_nf tx)))]) := by
  refine m_enterI (cc := cX7_carryOut) (maxL := 2) (ret := (some .int)) (by decide +kernel) rfl (Nat.le_of_ble_eq_true rfl) ?_
  intro p e s m below meth c A ls C0 hP hD hl
  obtain ⟨hx, hb, hr, hml, hts, hown, hlocks, hK, hA⟩ := id C0
  generalize hQ : MQ below _ _ s 0 0 A = Q
  have hS : va_S A s.heap s.heap [] := va_S.rf
  have hl : lv_has ls 2 [(0, .ref mx)] := hl
  refine lv_aload_n hx hb dX7_carryOut_0 rfl (lv_at hl 0 rfl) ?_
  refine m_callVi (As := []) (rest := []) C0 hl hP hD hS (c_X7_errorOfProgram l D cY mx va vk vr vs vt vc vb rl ik th tl ta yr ys yo yf ye tx (by first | assumption | omega | exact nm_lt _ _ | exact np_lt _ _ | decide) (by first | assumption | omega | exact nm_lt _ _ | exact np_lt _ _ | decide)) (cwV 0 hts gX7_carryOut_X7_errorOfProgram rfl rfl rfl (by decide +kernel) ⟨Nat.le_of_ble_eq_true rfl, Nat.le_of_ble_eq_true rfl⟩) dX7_carryOut_1 [0, 1] rfl rfl 0 rfl rfl rfl rfl (Nat.le_of_ble_eq_true rfl) (Nat.zero_le _) (Nat.zero_le _) (fun _ => rfl) (fun r8 u H1 locs hw hP hD hS => ?_)
  obtain ⟨ta9_2, yr9_3, ys9_4, yo9_5, yf9_6, ye9_7⟩ := u
  try dsimp only at hw
  have hq9 := hw; clear hw
  have hP : va_P D vwCl [(mx, .inr (7, [.ref va, .ref vk, .ref vr, .int (nI rl), .ref vs, .int (nI ik), .int (nI th), .ref vt, .int (nI tl), .int (nI ta9_2), .int yr9_3, .int ys9_4, .int yo9_5, .int yf9_6, .int ye9_7, .ref vc, .ref vb])), (vt, .inl (cY 0, 60, .inl (m_nf tx)))] H1 := hP
  have hD : va_D A [(mx, .inr (7, [.ref va, .ref vk, .ref vr, .int (nI rl), .ref vs, .int (nI ik), .int (nI th), .ref vt, .int (nI tl), .int (nI ta9_2), .int yr9_3, .int ys9_4, .int yo9_5, .int yf9_6, .int ye9_7, .ref vc, .ref vb])), (vt, .inl (cY 0, 60, .inl (m_nf tx)))] := hD
  rcases hq9 with ⟨w9, rfl, hw60, hz⟩ | ⟨ps9, rfl, hz⟩
  · skip
    have hw9 : w9 = w := by (have h9 := hv.symm.trans hz); cases h9; rfl
    subst hw9
    refine lv_iconst (v := (-1)) hx hb dX7_carryOut_4 (by decide) ?_
    refine lv_icmp_ne (tgt := 16) hx hb dX7_carryOut_5 (by decide) (fun c5 => ?_) (fun c5 => ?_)
    · have c5 := c5
      refine lv_aload_n hx hb dX7_carryOut_16 rfl (lv_at hl 0 rfl) ?_
      refine lv_iconst (v := nI 1) hx hb dX7_carryOut_17 (by decide) ?_
      refine m_callVi (As := [.int (nI 1)]) (rest := []) C0 hl hP hD hS (c_X7_fails l D cY mx va vk vr vs vt vc vb rl ik th tl ta9_2 yr9_3 ys9_4 yo9_5 yf9_6 ye9_7 1 ) (cwV 1 hts gX7_carryOut_X7_fails rfl rfl rfl (by decide +kernel) ⟨Nat.le_of_ble_eq_true rfl, Nat.le_of_ble_eq_true rfl⟩) dX7_carryOut_18 [0] rfl rfl 0 rfl rfl rfl rfl (Nat.le_of_ble_eq_true rfl) (Nat.zero_le _) (Nat.zero_le _) (fun _ => rfl) (fun r11 u H10 locs hw hP hD hS => ?_)
      try dsimp only at hw
      obtain rfl := hw
      have hP : va_P D vwCl [(mx, .inr (7, [.ref va, .ref vk, .ref vr, .int (nI rl), .ref vs, .int (nI ik), .int (nI 1), .ref vt, .int (nI tl), .int (nI ta9_2), .int yr9_3, .int ys9_4, .int yo9_5, .int yf9_6, .int ye9_7, .ref vc, .ref vb])), (vt, .inl (cY 0, 60, .inl (m_nf tx)))] H10 := hP
      have hD : va_D A [(mx, .inr (7, [.ref va, .ref vk, .ref vr, .int (nI rl), .ref vs, .int (nI ik), .int (nI 1), .ref vt, .int (nI tl), .int (nI ta9_2), .int yr9_3, .int ys9_4, .int yo9_5, .int yf9_6, .int ye9_7, .ref vc, .ref vb])), (vt, .inl (cY 0, 60, .inl (m_nf tx)))] := hD
      subst hQ
      exact m_iret C0 hS dX7_carryOut_21 (u := (ta9_2, yr9_3, ys9_4, yo9_5, yf9_6, ye9_7)) hP (rfl)
    · have c5 := c5
      exfalso; exact n_nem1 (by omega) c5
  · skip
    exact absurd (hv.symm.trans hz) (by intro h; cases h)
set_option maxHeartbeats 4000000 in
set_option maxRecDepth 100000 in
theorem c_X7_carryOut_f2 (l : Launch) (D : va_G) (cY : Nat → ClassId) (mx va vk vr vs vt vc vb : Nat) (rl ik th tl ta : Nat) (yr ys yo yf ye : Int32) (tx : Nat → Nat) (f : Nat → Nat) (cnt : Nat) (ps : List p_St) (kf : Nat → Nat) (kc : Nat) (htl : tl ≤ 60) (htx : ∀ j, tx j < 65536) (hv : p_prog tx tl 15 0 = .inr ps) (hf8 : m_z 8 f) (hf16 : ∀ j, f j < 65536) (htr : ¬ (p_run ps 0 f cnt).1 = -1) : m_Mi l yX7_carryOut wsX7_carryOut 9 206 D cY [.ref mx] [(mx, .inr (7, [.ref va, .ref vk, .ref vr, .int (nI rl), .ref vs, .int (nI ik), .int (nI th), .ref vt, .int (nI tl), .int (nI ta), .int yr, .int ys, .int yo, .int yf, .int ye, .ref vc, .ref vb])), (va, .inl (cY 0, 9, .inl (m_nf (m_all f cnt)))), (vk, .inl (cY 0, 9, .inl (m_nf (m_all kf kc)))), (vt, .inl (cY 0, 60, .inl (m_nf tx)))] (fun (res : Int32) (u : Nat × Int32 × Int32 × Int32 × Int32 × Int32) => res = nI 0) (fun (u : Nat × Int32 × Int32 × Int32 × Int32 × Int32) => [(mx, .inr (7, [.ref va, .ref vk, .ref vr, .int (nI rl), .ref vs, .int (nI ik), .int (nI 1), .ref vt, .int (nI tl), .int (nI u.1), .int u.2.1, .int u.2.2.1, .int u.2.2.2.1, .int u.2.2.2.2.1, .int u.2.2.2.2.2, .ref vc, .ref vb])), (va, .inl (cY 0, 9, .inl (m_nf (m_all f cnt)))), (vk, .inl (cY 0, 9, .inl (m_nf (m_all f cnt)))), (vt, .inl (cY 0, 60, .inl (m_nf tx)))]) := by
  refine m_enterI (cc := cX7_carryOut) (maxL := 2) (ret := (some .int)) (by decide +kernel) rfl (Nat.le_of_ble_eq_true rfl) ?_
  intro p e s m below meth c A ls C0 hP hD hl
  obtain ⟨hx, hb, hr, hml, hts, hown, hlocks, hK, hA⟩ := id C0
  generalize hQ : MQ below _ _ s 0 0 A = Q
  have hS : va_S A s.heap s.heap [] := va_S.rf
  have hl : lv_has ls 2 [(0, .ref mx)] := hl
  refine lv_aload_n hx hb dX7_carryOut_0 rfl (lv_at hl 0 rfl) ?_
  refine m_callVi (As := []) (rest := []) C0 hl hP hD hS (c_X7_errorOfProgram l D cY mx va vk vr vs vt vc vb rl ik th tl ta yr ys yo yf ye tx (by first | assumption | omega | exact nm_lt _ _ | exact np_lt _ _ | decide) (by first | assumption | omega | exact nm_lt _ _ | exact np_lt _ _ | decide)) (cwV 0 hts gX7_carryOut_X7_errorOfProgram rfl rfl rfl (by decide +kernel) ⟨Nat.le_of_ble_eq_true rfl, Nat.le_of_ble_eq_true rfl⟩) dX7_carryOut_1 [0, 3] rfl rfl 0 rfl rfl rfl rfl (Nat.le_of_ble_eq_true rfl) (Nat.zero_le _) (Nat.zero_le _) (fun _ => rfl) (fun r8 u H1 locs hw hP hD hS => ?_)
  obtain ⟨ta9_2, yr9_3, ys9_4, yo9_5, yf9_6, ye9_7⟩ := u
  try dsimp only at hw
  have hq9 := hw; clear hw
  have hP : va_P D vwCl [(mx, .inr (7, [.ref va, .ref vk, .ref vr, .int (nI rl), .ref vs, .int (nI ik), .int (nI th), .ref vt, .int (nI tl), .int (nI ta9_2), .int yr9_3, .int ys9_4, .int yo9_5, .int yf9_6, .int ye9_7, .ref vc, .ref vb])), (va, .inl (cY 0, 9, .inl (m_nf (m_all f cnt)))), (vk, .inl (cY 0, 9, .inl (m_nf (m_all kf kc)))), (vt, .inl (cY 0, 60, .inl (m_nf tx)))] H1 := hP
  have hD : va_D A [(mx, .inr (7, [.ref va, .ref vk, .ref vr, .int (nI rl), .ref vs, .int (nI ik), .int (nI th), .ref vt, .int (nI tl), .int (nI ta9_2), .int yr9_3, .int ys9_4, .int yo9_5, .int yf9_6, .int ye9_7, .ref vc, .ref vb])), (va, .inl (cY 0, 9, .inl (m_nf (m_all f cnt)))), (vk, .inl (cY 0, 9, .inl (m_nf (m_all kf kc)))), (vt, .inl (cY 0, 60, .inl (m_nf tx)))] := hD
  rcases hq9 with ⟨w9, rfl, hw60, hz⟩ | ⟨ps9, rfl, hz⟩
  · skip
    exact absurd (hv.symm.trans hz) (by intro h; cases h)
  · skip
    refine lv_iconst (v := (-1)) hx hb dX7_carryOut_4 (by decide) ?_
    refine lv_icmp_ne (tgt := 16) hx hb dX7_carryOut_5 (by decide) (fun c5 => ?_) (fun c5 => ?_)
    · have c5 := c5
      exfalso; exact c5 rfl
    · have c5 := c5
      refine lv_aload_n hx hb dX7_carryOut_8 rfl (lv_at hl 0 rfl) ?_
      refine m_callVi (As := []) (rest := []) C0 hl hP hD hS (c_X7_tries l D cY mx va vk vr vs vt vc vb rl ik th tl ta9_2 yr9_3 ys9_4 yo9_5 yf9_6 ye9_7 tx f cnt ps kf kc (by first | assumption | omega | exact nm_lt _ _ | exact np_lt _ _ | decide) (by first | assumption | omega | exact nm_lt _ _ | exact np_lt _ _ | decide) (by first | assumption | omega | exact nm_lt _ _ | exact np_lt _ _ | decide) (by first | assumption | omega | exact nm_lt _ _ | exact np_lt _ _ | decide) (by first | assumption | omega | exact nm_lt _ _ | exact np_lt _ _ | decide)) (cwV 0 hts gX7_carryOut_X7_tries rfl rfl rfl (by decide +kernel) ⟨Nat.le_of_ble_eq_true rfl, Nat.le_of_ble_eq_true rfl⟩) dX7_carryOut_9 [0, 1, 2, 3] rfl rfl 0 rfl rfl rfl rfl (Nat.le_of_ble_eq_true rfl) (Nat.zero_le _) (Nat.zero_le _) (fun _ => rfl) (fun r17 u H10 locs hw hP hD hS => ?_)
      obtain ⟨ta9_11, yr9_12, ys9_13, yo9_14, yf9_15, ye9_16⟩ := u
      try dsimp only at hw
      obtain rfl := hw
      have hP : va_P D vwCl [(mx, .inr (7, [.ref va, .ref vk, .ref vr, .int (nI rl), .ref vs, .int (nI ik), .int (nI th), .ref vt, .int (nI tl), .int (nI ta9_11), .int yr9_12, .int ys9_13, .int yo9_14, .int yf9_15, .int ye9_16, .ref vc, .ref vb])), (va, .inl (cY 0, 9, .inl (m_nf (m_all f cnt)))), (vk, .inl (cY 0, 9, .inl (m_nf (m_all f cnt)))), (vt, .inl (cY 0, 60, .inl (m_nf tx)))] H10 := hP
      have hD : va_D A [(mx, .inr (7, [.ref va, .ref vk, .ref vr, .int (nI rl), .ref vs, .int (nI ik), .int (nI th), .ref vt, .int (nI tl), .int (nI ta9_11), .int yr9_12, .int ys9_13, .int yo9_14, .int yf9_15, .int ye9_16, .ref vc, .ref vb])), (va, .inl (cY 0, 9, .inl (m_nf (m_all f cnt)))), (vk, .inl (cY 0, 9, .inl (m_nf (m_all f cnt)))), (vt, .inl (cY 0, 60, .inl (m_nf tx)))] := hD
      refine lv_iconst (v := (-1)) hx hb dX7_carryOut_12 (by decide) ?_
      refine lv_icmp_eq (tgt := 22) hx hb dX7_carryOut_13 (by decide) (fun c13 => ?_) (fun c13 => ?_)
      · have c13 := c13
        exfalso; exact htr c13
      · have c13 := c13
        refine lv_aload_n hx hb dX7_carryOut_16 rfl (lv_at hl 0 rfl) ?_
        refine lv_iconst (v := nI 1) hx hb dX7_carryOut_17 (by decide) ?_
        refine m_callVi (As := [.int (nI 1)]) (rest := []) C0 hl hP hD hS (c_X7_fails l D cY mx va vk vr vs vt vc vb rl ik th tl ta9_11 yr9_12 ys9_13 yo9_14 yf9_15 ye9_16 1 ) (cwV 1 hts gX7_carryOut_X7_fails rfl rfl rfl (by decide +kernel) ⟨Nat.le_of_ble_eq_true rfl, Nat.le_of_ble_eq_true rfl⟩) dX7_carryOut_18 [0] rfl rfl 0 rfl rfl rfl rfl (Nat.le_of_ble_eq_true rfl) (Nat.zero_le _) (Nat.zero_le _) (fun _ => rfl) (fun r19 u H18 locs hw hP hD hS => ?_)
        try dsimp only at hw
        obtain rfl := hw
        have hP : va_P D vwCl [(mx, .inr (7, [.ref va, .ref vk, .ref vr, .int (nI rl), .ref vs, .int (nI ik), .int (nI 1), .ref vt, .int (nI tl), .int (nI ta9_11), .int yr9_12, .int ys9_13, .int yo9_14, .int yf9_15, .int ye9_16, .ref vc, .ref vb])), (va, .inl (cY 0, 9, .inl (m_nf (m_all f cnt)))), (vk, .inl (cY 0, 9, .inl (m_nf (m_all f cnt)))), (vt, .inl (cY 0, 60, .inl (m_nf tx)))] H18 := hP
        have hD : va_D A [(mx, .inr (7, [.ref va, .ref vk, .ref vr, .int (nI rl), .ref vs, .int (nI ik), .int (nI 1), .ref vt, .int (nI tl), .int (nI ta9_11), .int yr9_12, .int ys9_13, .int yo9_14, .int yf9_15, .int ye9_16, .ref vc, .ref vb])), (va, .inl (cY 0, 9, .inl (m_nf (m_all f cnt)))), (vk, .inl (cY 0, 9, .inl (m_nf (m_all f cnt)))), (vt, .inl (cY 0, 60, .inl (m_nf tx)))] := hD
        subst hQ
        exact m_iret C0 hS dX7_carryOut_21 (u := (ta9_11, yr9_12, ys9_13, yo9_14, yf9_15, ye9_16)) hP (rfl)
set_option maxHeartbeats 4000000 in
set_option maxRecDepth 100000 in
theorem c_X7_carryOut_ok (l : Launch) (D : va_G) (cY : Nat → ClassId) (mx va vk vr vs vt vc vb : Nat) (rl ik th tl ta : Nat) (yr ys yo yf ye : Int32) (tx : Nat → Nat) (f : Nat → Nat) (cnt : Nat) (ps : List p_St) (kf : Nat → Nat) (kc : Nat) (rv : Nat → Nat) (hh : Nat → Nat → Nat) (lx : p_St) (htl : tl ≤ 60) (htx : ∀ j, tx j < 65536) (hv : p_prog tx tl 15 0 = .inr ps) (hf8 : m_z 8 f) (hf16 : ∀ j, f j < 65536) (hrl : rl ≤ 4) (hrec : n_rec rl rv hh) (htr : (p_run ps 0 f cnt).1 = -1) (hlx : ps.getLast? = some lx) (hl8 : lx.1 < 8) : m_Mi l yX7_carryOut wsX7_carryOut 9 206 D cY [.ref mx] [(mx, .inr (7, [.ref va, .ref vk, .ref vr, .int (nI rl), .ref vs, .int (nI ik), .int (nI th), .ref vt, .int (nI tl), .int (nI ta), .int yr, .int ys, .int yo, .int yf, .int ye, .ref vc, .ref vb])), (va, .inl (cY 0, 9, .inl (m_nf (m_all f cnt)))), (vk, .inl (cY 0, 9, .inl (m_nf (m_all kf kc)))), (vt, .inl (cY 0, 60, .inl (m_nf tx))), (vr, .inl (cY 0, 36, .inl (m_nf rv)))] (fun (res : Int32) (u : Nat × Int32 × Int32 × Int32 × Int32 × Int32 × (Nat → Nat)) => (res = nI ((p_run ps 0 f cnt).2.1 lx.1)) ∧ (n_rec (min (rl + 1) 4) u.2.2.2.2.2.2 (n_push (m_all f cnt) hh))) (fun (u : Nat × Int32 × Int32 × Int32 × Int32 × Int32 × (Nat → Nat)) => [(mx, .inr (7, [.ref va, .ref vk, .ref vr, .int (nI (min (rl + 1) 4)), .ref vs, .int (nI ik), .int (nI 0), .ref vt, .int (nI tl), .int (nI u.1), .int u.2.1, .int u.2.2.1, .int u.2.2.2.1, .int u.2.2.2.2.1, .int u.2.2.2.2.2.1, .ref vc, .ref vb])), (va, .inl (cY 0, 9, .inl (m_nf (m_all ((p_run ps 0 f cnt).2.1) ((p_run ps 0 f cnt).2.2))))), (vk, .inl (cY 0, 9, .inl (m_nf (m_all f cnt)))), (vt, .inl (cY 0, 60, .inl (m_nf tx))), (vr, .inl (cY 0, 36, .inl (m_nf u.2.2.2.2.2.2)))]) := by
  refine m_enterI (cc := cX7_carryOut) (maxL := 2) (ret := (some .int)) (by decide +kernel) rfl (Nat.le_of_ble_eq_true rfl) ?_
  intro p e s m below meth c A ls C0 hP hD hl
  obtain ⟨hx, hb, hr, hml, hts, hown, hlocks, hK, hA⟩ := id C0
  generalize hQ : MQ below _ _ s 0 0 A = Q
  have hS : va_S A s.heap s.heap [] := va_S.rf
  have hl : lv_has ls 2 [(0, .ref mx)] := hl
  have hwd0 := hts (.fieldLink RX7 7 "NimberFieldModel" "all" "[I") (by decide +kernel)
  have hwd1 := (show ∀ w ∈ u_ws RX7 TX7 17, w ∈ wsX7_carryOut from by decide +kernel)
  have hwd2 := hts (.fieldLink RX7 101 "NimberFieldModel" "register" "I") (by decide +kernel)
  refine lv_aload_n hx hb dX7_carryOut_0 rfl (lv_at hl 0 rfl) ?_
  refine m_callVi (As := []) (rest := []) C0 hl hP hD hS (c_X7_errorOfProgram l D cY mx va vk vr vs vt vc vb rl ik th tl ta yr ys yo yf ye tx (by first | assumption | omega | exact nm_lt _ _ | exact np_lt _ _ | decide) (by first | assumption | omega | exact nm_lt _ _ | exact np_lt _ _ | decide)) (cwV 0 hts gX7_carryOut_X7_errorOfProgram rfl rfl rfl (by decide +kernel) ⟨Nat.le_of_ble_eq_true rfl, Nat.le_of_ble_eq_true rfl⟩) dX7_carryOut_1 [0, 3] rfl rfl 0 rfl rfl rfl rfl (Nat.le_of_ble_eq_true rfl) (Nat.zero_le _) (Nat.zero_le _) (fun _ => rfl) (fun r8 u H1 locs hw hP hD hS => ?_)
  obtain ⟨ta9_2, yr9_3, ys9_4, yo9_5, yf9_6, ye9_7⟩ := u
  try dsimp only at hw
  have hq9 := hw; clear hw
  have hP : va_P D vwCl [(mx, .inr (7, [.ref va, .ref vk, .ref vr, .int (nI rl), .ref vs, .int (nI ik), .int (nI th), .ref vt, .int (nI tl), .int (nI ta9_2), .int yr9_3, .int ys9_4, .int yo9_5, .int yf9_6, .int ye9_7, .ref vc, .ref vb])), (va, .inl (cY 0, 9, .inl (m_nf (m_all f cnt)))), (vk, .inl (cY 0, 9, .inl (m_nf (m_all kf kc)))), (vt, .inl (cY 0, 60, .inl (m_nf tx))), (vr, .inl (cY 0, 36, .inl (m_nf rv)))] H1 := hP
  have hD : va_D A [(mx, .inr (7, [.ref va, .ref vk, .ref vr, .int (nI rl), .ref vs, .int (nI ik), .int (nI th), .ref vt, .int (nI tl), .int (nI ta9_2), .int yr9_3, .int ys9_4, .int yo9_5, .int yf9_6, .int ye9_7, .ref vc, .ref vb])), (va, .inl (cY 0, 9, .inl (m_nf (m_all f cnt)))), (vk, .inl (cY 0, 9, .inl (m_nf (m_all kf kc)))), (vt, .inl (cY 0, 60, .inl (m_nf tx))), (vr, .inl (cY 0, 36, .inl (m_nf rv)))] := hD
  rcases hq9 with ⟨w9, rfl, hw60, hz⟩ | ⟨ps9, rfl, hz⟩
  · skip
    exact absurd (hv.symm.trans hz) (by intro h; cases h)
  · skip
    refine lv_iconst (v := (-1)) hx hb dX7_carryOut_4 (by decide) ?_
    refine lv_icmp_ne (tgt := 16) hx hb dX7_carryOut_5 (by decide) (fun c5 => ?_) (fun c5 => ?_)
    · have c5 := c5
      exfalso; exact c5 rfl
    · have c5 := c5
      refine lv_aload_n hx hb dX7_carryOut_8 rfl (lv_at hl 0 rfl) ?_
      refine m_callVi (As := []) (rest := []) C0 hl hP hD hS (c_X7_tries l D cY mx va vk vr vs vt vc vb rl ik th tl ta9_2 yr9_3 ys9_4 yo9_5 yf9_6 ye9_7 tx f cnt ps kf kc (by first | assumption | omega | exact nm_lt _ _ | exact np_lt _ _ | decide) (by first | assumption | omega | exact nm_lt _ _ | exact np_lt _ _ | decide) (by first | assumption | omega | exact nm_lt _ _ | exact np_lt _ _ | decide) (by first | assumption | omega | exact nm_lt _ _ | exact np_lt _ _ | decide) (by first | assumption | omega | exact nm_lt _ _ | exact np_lt _ _ | decide)) (cwV 0 hts gX7_carryOut_X7_tries rfl rfl rfl (by decide +kernel) ⟨Nat.le_of_ble_eq_true rfl, Nat.le_of_ble_eq_true rfl⟩) dX7_carryOut_9 [0, 1, 2, 3] rfl rfl 0 rfl rfl rfl rfl (Nat.le_of_ble_eq_true rfl) (Nat.zero_le _) (Nat.zero_le _) (fun _ => rfl) (fun r17 u H10 locs hw hP hD hS => ?_)
      obtain ⟨ta9_11, yr9_12, ys9_13, yo9_14, yf9_15, ye9_16⟩ := u
      try dsimp only at hw
      obtain rfl := hw
      have hP : va_P D vwCl [(mx, .inr (7, [.ref va, .ref vk, .ref vr, .int (nI rl), .ref vs, .int (nI ik), .int (nI th), .ref vt, .int (nI tl), .int (nI ta9_11), .int yr9_12, .int ys9_13, .int yo9_14, .int yf9_15, .int ye9_16, .ref vc, .ref vb])), (va, .inl (cY 0, 9, .inl (m_nf (m_all f cnt)))), (vk, .inl (cY 0, 9, .inl (m_nf (m_all f cnt)))), (vt, .inl (cY 0, 60, .inl (m_nf tx))), (vr, .inl (cY 0, 36, .inl (m_nf rv)))] H10 := hP
      have hD : va_D A [(mx, .inr (7, [.ref va, .ref vk, .ref vr, .int (nI rl), .ref vs, .int (nI ik), .int (nI th), .ref vt, .int (nI tl), .int (nI ta9_11), .int yr9_12, .int ys9_13, .int yo9_14, .int yf9_15, .int ye9_16, .ref vc, .ref vb])), (va, .inl (cY 0, 9, .inl (m_nf (m_all f cnt)))), (vk, .inl (cY 0, 9, .inl (m_nf (m_all f cnt)))), (vt, .inl (cY 0, 60, .inl (m_nf tx))), (vr, .inl (cY 0, 36, .inl (m_nf rv)))] := hD
      refine lv_iconst (v := (-1)) hx hb dX7_carryOut_12 (by decide) ?_
      refine lv_icmp_eq (tgt := 22) hx hb dX7_carryOut_13 (by decide) (fun c13 => ?_) (fun c13 => ?_)
      · have c13 := c13
        refine lv_aload_n hx hb dX7_carryOut_22 rfl (lv_at hl 0 rfl) ?_
        refine m_callVv (As := []) (rest := []) C0 hl hP hD hS (c_X7_records l D cY mx va vk vr vs vt vc vb rl ik th tl ta9_11 yr9_12 ys9_13 yo9_14 yf9_15 ye9_16 f cnt rv hh (by first | assumption | omega | exact nm_lt _ _ | exact np_lt _ _ | decide) (by first | assumption | omega | exact nm_lt _ _ | exact np_lt _ _ | decide)) (cwV 0 hts gX7_carryOut_X7_records rfl rfl rfl (by decide +kernel) ⟨Nat.le_of_ble_eq_true rfl, Nat.le_of_ble_eq_true rfl⟩) dX7_carryOut_23 [0, 1, 4] rfl rfl 0 rfl rfl rfl rfl (Nat.le_of_ble_eq_true rfl) (Nat.zero_le _) (Nat.zero_le _) (fun _ => rfl) (fun u H18 locs hw hP hD hS => ?_)
        obtain ⟨rv9_19, rfl⟩ : ∃ z, z = u := ⟨_, rfl⟩
        try dsimp only at hw
        have hq20 := hw; clear hw
        have hP : va_P D vwCl [(mx, .inr (7, [.ref va, .ref vk, .ref vr, .int (nI (min (rl + 1) 4)), .ref vs, .int (nI ik), .int (nI 0), .ref vt, .int (nI tl), .int (nI ta9_11), .int yr9_12, .int ys9_13, .int yo9_14, .int yf9_15, .int ye9_16, .ref vc, .ref vb])), (va, .inl (cY 0, 9, .inl (m_nf (m_all f cnt)))), (vk, .inl (cY 0, 9, .inl (m_nf (m_all f cnt)))), (vt, .inl (cY 0, 60, .inl (m_nf tx))), (vr, .inl (cY 0, 36, .inl (m_nf rv9_19)))] H18 := hP
        have hD : va_D A [(mx, .inr (7, [.ref va, .ref vk, .ref vr, .int (nI (min (rl + 1) 4)), .ref vs, .int (nI ik), .int (nI 0), .ref vt, .int (nI tl), .int (nI ta9_11), .int yr9_12, .int ys9_13, .int yo9_14, .int yf9_15, .int ye9_16, .ref vc, .ref vb])), (va, .inl (cY 0, 9, .inl (m_nf (m_all f cnt)))), (vk, .inl (cY 0, 9, .inl (m_nf (m_all f cnt)))), (vt, .inl (cY 0, 60, .inl (m_nf tx))), (vr, .inl (cY 0, 36, .inl (m_nf rv9_19)))] := hD
        refine lv_aload_n hx hb dX7_carryOut_26 rfl (lv_at hl 0 rfl) ?_
        refine m_callVi (As := []) (rest := []) C0 hl hP hD hS (c_X7_doesAll l D cY mx va vk vr vs vt vc vb (min (rl + 1) 4) ik 0 tl ta9_11 yr9_12 ys9_13 yo9_14 yf9_15 ye9_16 tx f cnt ps (by first | assumption | omega | exact nm_lt _ _ | exact np_lt _ _ | decide) (by first | assumption | omega | exact nm_lt _ _ | exact np_lt _ _ | decide) (by first | assumption | omega | exact nm_lt _ _ | exact np_lt _ _ | decide) (by first | assumption | omega | exact nm_lt _ _ | exact np_lt _ _ | decide) (by first | assumption | omega | exact nm_lt _ _ | exact np_lt _ _ | decide)) (cwV 0 hts gX7_carryOut_X7_doesAll rfl rfl rfl (by decide +kernel) ⟨Nat.le_of_ble_eq_true rfl, Nat.le_of_ble_eq_true rfl⟩) dX7_carryOut_27 [0, 1, 3] rfl rfl 0 rfl rfl rfl rfl (Nat.le_of_ble_eq_true rfl) (Nat.zero_le _) (Nat.zero_le _) (fun _ => rfl) (fun r30 u H21 locs hw hP hD hS => ?_)
        obtain ⟨f9_22, cnt9_23, ta9_24, yr9_25, ys9_26, yo9_27, yf9_28, ye9_29⟩ := u
        try dsimp only at hw
        obtain ⟨hq31, hq32, hq33, hq34⟩ := hw
        have hP : va_P D vwCl [(mx, .inr (7, [.ref va, .ref vk, .ref vr, .int (nI (min (rl + 1) 4)), .ref vs, .int (nI ik), .int (nI 0), .ref vt, .int (nI tl), .int (nI ta9_24), .int yr9_25, .int ys9_26, .int yo9_27, .int yf9_28, .int ye9_29, .ref vc, .ref vb])), (va, .inl (cY 0, 9, .inl (m_nf (m_all f9_22 cnt9_23)))), (vk, .inl (cY 0, 9, .inl (m_nf (m_all f cnt)))), (vt, .inl (cY 0, 60, .inl (m_nf tx))), (vr, .inl (cY 0, 36, .inl (m_nf rv9_19)))] H21 := hP
        have hD : va_D A [(mx, .inr (7, [.ref va, .ref vk, .ref vr, .int (nI (min (rl + 1) 4)), .ref vs, .int (nI ik), .int (nI 0), .ref vt, .int (nI tl), .int (nI ta9_24), .int yr9_25, .int ys9_26, .int yo9_27, .int yf9_28, .int ye9_29, .ref vc, .ref vb])), (va, .inl (cY 0, 9, .inl (m_nf (m_all f9_22 cnt9_23)))), (vk, .inl (cY 0, 9, .inl (m_nf (m_all f cnt)))), (vt, .inl (cY 0, 60, .inl (m_nf tx))), (vr, .inl (cY 0, 36, .inl (m_nf rv9_19)))] := hD
        have e1 : r30 = -1 := (congrArg Prod.fst hq31).trans htr
        have e2 : f9_22 = (p_run ps 0 f cnt).2.1 := congrArg (fun q => q.2.1) hq31
        have e3 : cnt9_23 = (p_run ps 0 f cnt).2.2 := congrArg (fun q => q.2.2) hq31
        have e4 := hq34 lx e1 hlx
        rw [e2, e3, e4] at hP hD
        have hP : va_P D vwCl [(mx, .inr (7, [.ref va, .ref vk, .ref vr, .int (nI (min (rl + 1) 4)), .ref vs, .int (nI ik), .int (nI 0), .ref vt, .int (nI tl), .int (nI ta9_24), .int (nI lx.1), .int ys9_26, .int yo9_27, .int yf9_28, .int ye9_29, .ref vc, .ref vb])), (va, .inl (cY 0, 9, .inl (m_nf (m_all ((p_run ps 0 f cnt).2.1) ((p_run ps 0 f cnt).2.2))))), (vk, .inl (cY 0, 9, .inl (m_nf (m_all f cnt)))), (vt, .inl (cY 0, 60, .inl (m_nf tx))), (vr, .inl (cY 0, 36, .inl (m_nf rv9_19)))] H21 := hP
        have hD : va_D A [(mx, .inr (7, [.ref va, .ref vk, .ref vr, .int (nI (min (rl + 1) 4)), .ref vs, .int (nI ik), .int (nI 0), .ref vt, .int (nI tl), .int (nI ta9_24), .int (nI lx.1), .int ys9_26, .int yo9_27, .int yf9_28, .int ye9_29, .ref vc, .ref vb])), (va, .inl (cY 0, 9, .inl (m_nf (m_all ((p_run ps 0 f cnt).2.1) ((p_run ps 0 f cnt).2.2))))), (vk, .inl (cY 0, 9, .inl (m_nf (m_all f cnt)))), (vt, .inl (cY 0, 60, .inl (m_nf tx))), (vr, .inl (cY 0, 36, .inl (m_nf rv9_19)))] := hD
        rw [e1]
        refine lv_istore_n (lv' := [(1, .int (-1)), (0, .ref mx)]) hx hb dX7_carryOut_30 rfl hl (by decide) rfl (fun ls hl => ?_)
        refine lv_aload_n hx hb dX7_carryOut_31 rfl (lv_at hl 1 rfl) ?_
        refine va_get (D := D) (ci := 7) (v := .ref va) (C := RX7) (T := TX7) (N := 17) hx hb hts hwd1 hown hK hP 0 rfl rfl 0 (by decide) hwd0 (fun _ h9 => h9) rfl dX7_carryOut_32 ?_
        refine lv_aload_n hx hb dX7_carryOut_35 rfl (lv_at hl 1 rfl) ?_
        refine va_get (D := D) (ci := 7) (v := .int (nI lx.1)) (C := RX7) (T := TX7) (N := 17) hx hb hts hwd1 hown hK hP 0 rfl rfl 10 (by decide) hwd2 (fun _ h9 => h9) rfl dX7_carryOut_36 ?_
        refine va_iald hx hb hK hP 1 0 rfl rfl (m_in (n := lx.1) (by first | assumption | omega) (by decide)) dX7_carryOut_39 ?_
        refine lv_topi (nm_r (m_ldn (g := m_all ((p_run ps 0 f cnt).2.1) ((p_run ps 0 f cnt).2.2)) (n := lx.1) (by omega)) ?_)
        refine lv_topi (nm_r (congrArg nI (m_all_lt (p_run ps 0 f cnt).2.1 (p_run ps 0 f cnt).2.2 hl8)) ?_)
        subst hQ
        exact m_iret C0 hS dX7_carryOut_40 (u := (ta9_24, nI lx.1, ys9_26, yo9_27, yf9_28, ye9_29, rv9_19)) hP (⟨rfl, hq20⟩)
      · have c13 := c13
        exfalso; exact c13 htr
set_option maxHeartbeats 4000000 in
set_option maxRecDepth 100000 in
theorem c_X7_undo_f1 (l : Launch) (D : va_G) (cY : Nat → ClassId) (mx va vk vr vs vt vc vb : Nat) (rl ik th tl ta : Nat) (yr ys yo yf ye : Int32) (hz : rl = 0) : m_Mi l yX7_undo wsX7_undo 1 21 D cY [.ref mx] [(mx, .inr (7, [.ref va, .ref vk, .ref vr, .int (nI rl), .ref vs, .int (nI ik), .int (nI th), .ref vt, .int (nI tl), .int (nI ta), .int yr, .int ys, .int yo, .int yf, .int ye, .ref vc, .ref vb]))] (fun (res : Int32) (u : Unit) => res = nI 0) (fun (u : Unit) => [(mx, .inr (7, [.ref va, .ref vk, .ref vr, .int (nI rl), .ref vs, .int (nI ik), .int (nI 1), .ref vt, .int (nI tl), .int (nI ta), .int yr, .int ys, .int yo, .int yf, .int ye, .ref vc, .ref vb]))]) := by
  refine m_enterI (cc := cX7_undo) (maxL := 2) (ret := (some .int)) (by decide +kernel) rfl (Nat.le_of_ble_eq_true rfl) ?_
  intro p e s m below meth c A ls C0 hP hD hl
  obtain ⟨hx, hb, hr, hml, hts, hown, hlocks, hK, hA⟩ := id C0
  generalize hQ : MQ below _ _ s 0 0 A = Q
  have hS : va_S A s.heap s.heap [] := va_S.rf
  have hl : lv_has ls 2 [(0, .ref mx)] := hl
  have hwd0 := hts (.fieldLink RX7 35 "NimberFieldModel" "recordedLong" "I") (by decide +kernel)
  have hwd1 := (show ∀ w ∈ u_ws RX7 TX7 17, w ∈ wsX7_undo from by decide +kernel)
  refine lv_aload_n hx hb dX7_undo_0 rfl (lv_at hl 0 rfl) ?_
  refine va_get (D := D) (ci := 7) (v := .int (nI rl)) (C := RX7) (T := TX7) (N := 17) hx hb hts hwd1 hown hK hP 0 rfl rfl 3 (by decide) hwd0 (fun _ h9 => h9) rfl dX7_undo_1 ?_
  refine lv_if_ne (tgt := 13) hx hb dX7_undo_4 (by decide) (fun c4 => ?_) (fun c4 => ?_)
  · have c4 : ¬ (rl = 0) := fun qq9 => c4 ((nI_eq (a := rl) (b := 0) (by first | omega | exact Nat.lt_of_le_of_lt Nat.and_le_right (by decide) | exact Nat.lt_trans (nm_lt _ _) (by decide) | exact Nat.lt_trans (np_lt _ _) (by decide) | exact Nat.lt_trans (p_at_lt htx) (by decide)) (by first | omega | exact Nat.lt_of_le_of_lt Nat.and_le_right (by decide) | exact Nat.lt_trans (nm_lt _ _) (by decide) | exact Nat.lt_trans (np_lt _ _) (by decide) | exact Nat.lt_trans (p_at_lt htx) (by decide))).mpr qq9)
    exfalso; omega
  · have c4 : rl = 0 := (nI_eq (a := rl) (b := 0) (by first | omega | exact Nat.lt_of_le_of_lt Nat.and_le_right (by decide) | exact Nat.lt_trans (nm_lt _ _) (by decide) | exact Nat.lt_trans (np_lt _ _) (by decide) | exact Nat.lt_trans (p_at_lt htx) (by decide)) (by first | omega | exact Nat.lt_of_le_of_lt Nat.and_le_right (by decide) | exact Nat.lt_trans (nm_lt _ _) (by decide) | exact Nat.lt_trans (np_lt _ _) (by decide) | exact Nat.lt_trans (p_at_lt htx) (by decide))).mp c4
    refine lv_aload_n hx hb dX7_undo_7 rfl (lv_at hl 0 rfl) ?_
    refine lv_iconst (v := nI 1) hx hb dX7_undo_8 (by decide) ?_
    refine m_callVi (As := [.int (nI 1)]) (rest := []) C0 hl hP hD hS (c_X7_fails l D cY mx va vk vr vs vt vc vb rl ik th tl ta yr ys yo yf ye 1 ) (cwV 1 hts gX7_undo_X7_fails rfl rfl rfl (by decide +kernel) ⟨Nat.le_of_ble_eq_true rfl, Nat.le_of_ble_eq_true rfl⟩) dX7_undo_9 [0] rfl rfl 0 rfl rfl rfl rfl (Nat.le_of_ble_eq_true rfl) (Nat.zero_le _) (Nat.zero_le _) (fun _ => rfl) (fun r2 u H1 locs hw hP hD hS => ?_)
    try dsimp only at hw
    obtain rfl := hw
    have hP : va_P D vwCl [(mx, .inr (7, [.ref va, .ref vk, .ref vr, .int (nI rl), .ref vs, .int (nI ik), .int (nI 1), .ref vt, .int (nI tl), .int (nI ta), .int yr, .int ys, .int yo, .int yf, .int ye, .ref vc, .ref vb]))] H1 := hP
    have hD : va_D A [(mx, .inr (7, [.ref va, .ref vk, .ref vr, .int (nI rl), .ref vs, .int (nI ik), .int (nI 1), .ref vt, .int (nI tl), .int (nI ta), .int yr, .int ys, .int yo, .int yf, .int ye, .ref vc, .ref vb]))] := hD
    subst hQ
    exact m_iret C0 hS dX7_undo_12 (u := ()) hP (by first | trivial | rfl | omega)
set_option maxHeartbeats 4000000 in
set_option maxRecDepth 100000 in
theorem c_X7_undo_ok (l : Launch) (D : va_G) (cY : Nat → ClassId) (mx va vk vr vs vt vc vb : Nat) (rl ik th tl ta : Nat) (yr ys yo yf ye : Int32) (f : Nat → Nat) (cnt : Nat) (rv : Nat → Nat) (hh : Nat → Nat → Nat) (g0 : Nat → Nat) (t0 : Nat) (hrl : rl ≤ 4) (hrec : n_rec rl rv hh) (hz : 0 < rl) (hg : ∀ j, j < 9 → hh 0 j = m_all g0 t0 j) : m_Mi l yX7_undo wsX7_undo 0 0 D cY [.ref mx] [(mx, .inr (7, [.ref va, .ref vk, .ref vr, .int (nI rl), .ref vs, .int (nI ik), .int (nI th), .ref vt, .int (nI tl), .int (nI ta), .int yr, .int ys, .int yo, .int yf, .int ye, .ref vc, .ref vb])), (va, .inl (cY 0, 9, .inl (m_nf (m_all f cnt)))), (vr, .inl (cY 0, 36, .inl (m_nf rv)))] (fun (res : Int32) (u : Unit) => (res = nI (rl - 1)) ∧ (n_rec (rl - 1) rv (fun k => hh (k + 1)))) (fun (u : Unit) => [(mx, .inr (7, [.ref va, .ref vk, .ref vr, .int (nI (rl - 1)), .ref vs, .int (nI ik), .int (nI 0), .ref vt, .int (nI tl), .int (nI ta), .int yr, .int ys, .int yo, .int yf, .int ye, .ref vc, .ref vb])), (va, .inl (cY 0, 9, .inl (m_nf (m_all g0 t0)))), (vr, .inl (cY 0, 36, .inl (m_nf rv)))]) := by
  refine m_enterI (cc := cX7_undo) (maxL := 2) (ret := (some .int)) (by decide +kernel) rfl (Nat.le_of_ble_eq_true rfl) ?_
  intro p e s m below meth c A ls C0 hP hD hl
  obtain ⟨hx, hb, hr, hml, hts, hown, hlocks, hK, hA⟩ := id C0
  generalize hQ : MQ below _ _ s 0 0 A = Q
  have hS : va_S A s.heap s.heap [] := va_S.rf
  have hl : lv_has ls 2 [(0, .ref mx)] := hl
  have hwd0 := hts (.fieldLink RX7 35 "NimberFieldModel" "recordedLong" "I") (by decide +kernel)
  have hwd1 := (show ∀ w ∈ u_ws RX7 TX7 17, w ∈ wsX7_undo from by decide +kernel)
  have hwd2 := hts (.fieldLink RX7 31 "NimberFieldModel" "thrown" "I") (by decide +kernel)
  have hwd3 := hts (.fieldLink RX7 7 "NimberFieldModel" "all" "[I") (by decide +kernel)
  have hwd4 := hts (.fieldLink RX7 16 "NimberFieldModel" "recorded" "[I") (by decide +kernel)
  refine lv_aload_n hx hb dX7_undo_0 rfl (lv_at hl 0 rfl) ?_
  refine va_get (D := D) (ci := 7) (v := .int (nI rl)) (C := RX7) (T := TX7) (N := 17) hx hb hts hwd1 hown hK hP 0 rfl rfl 3 (by decide) hwd0 (fun _ h9 => h9) rfl dX7_undo_1 ?_
  refine lv_if_ne (tgt := 13) hx hb dX7_undo_4 (by decide) (fun c4 => ?_) (fun c4 => ?_)
  · have c4 : ¬ (rl = 0) := fun qq9 => c4 ((nI_eq (a := rl) (b := 0) (by first | omega | exact Nat.lt_of_le_of_lt Nat.and_le_right (by decide) | exact Nat.lt_trans (nm_lt _ _) (by decide) | exact Nat.lt_trans (np_lt _ _) (by decide) | exact Nat.lt_trans (p_at_lt htx) (by decide)) (by first | omega | exact Nat.lt_of_le_of_lt Nat.and_le_right (by decide) | exact Nat.lt_trans (nm_lt _ _) (by decide) | exact Nat.lt_trans (np_lt _ _) (by decide) | exact Nat.lt_trans (p_at_lt htx) (by decide))).mpr qq9)
    refine lv_aload_n hx hb dX7_undo_13 rfl (lv_at hl 0 rfl) ?_
    refine lv_iconst (v := nI 0) hx hb dX7_undo_14 (by decide) ?_
    refine va_put (D := D) (ci := 7) (v := .int (nI 0)) (ty := .int) (C := RX7) (T := TX7) (N := 17) hx hb hts hwd1 tyX7 tyX7_ok nmX7 hown hK hP hD hS 0 rfl rfl 6 (by decide) hwd2 (fun _ h9 => h9) rfl (by decide +kernel) rfl rfl (Nat.le_of_ble_eq_true rfl) dX7_undo_15 (fun H1 locs hP hD hS => ?_)
    have hP : va_P D vwCl [(mx, .inr (7, [.ref va, .ref vk, .ref vr, .int (nI rl), .ref vs, .int (nI ik), .int (nI 0), .ref vt, .int (nI tl), .int (nI ta), .int yr, .int ys, .int yo, .int yf, .int ye, .ref vc, .ref vb])), (va, .inl (cY 0, 9, .inl (m_nf (m_all f cnt)))), (vr, .inl (cY 0, 36, .inl (m_nf rv)))] H1 := hP
    have hD : va_D A [(mx, .inr (7, [.ref va, .ref vk, .ref vr, .int (nI rl), .ref vs, .int (nI ik), .int (nI 0), .ref vt, .int (nI tl), .int (nI ta), .int yr, .int ys, .int yo, .int yf, .int ye, .ref vc, .ref vb])), (va, .inl (cY 0, 9, .inl (m_nf (m_all f cnt)))), (vr, .inl (cY 0, 36, .inl (m_nf rv)))] := hD
    refine lv_aload_n hx hb dX7_undo_18 rfl (lv_at hl 0 rfl) ?_
    refine lv_dup hx hb dX7_undo_19 rfl ?_
    refine va_get (D := D) (ci := 7) (v := .int (nI rl)) (C := RX7) (T := TX7) (N := 17) hx hb hts hwd1 hown hK hP 0 rfl rfl 3 (by decide) hwd0 (fun _ h9 => h9) rfl dX7_undo_20 ?_
    refine lv_iconst (v := nI 1) hx hb dX7_undo_23 (by decide) ?_
    refine lv_isub hx hb dX7_undo_24 ?_
    refine lv_topi (nm_r (pk_sub (by omega)) ?_)
    refine va_put (D := D) (ci := 7) (v := .int (nI (rl - 1))) (ty := .int) (C := RX7) (T := TX7) (N := 17) hx hb hts hwd1 tyX7 tyX7_ok nmX7 hown hK hP hD hS 0 rfl rfl 3 (by decide) hwd0 (fun _ h9 => h9) rfl (by decide +kernel) rfl rfl (Nat.le_of_ble_eq_true rfl) dX7_undo_25 (fun H2 locs hP hD hS => ?_)
    have hP : va_P D vwCl [(mx, .inr (7, [.ref va, .ref vk, .ref vr, .int (nI (rl - 1)), .ref vs, .int (nI ik), .int (nI 0), .ref vt, .int (nI tl), .int (nI ta), .int yr, .int ys, .int yo, .int yf, .int ye, .ref vc, .ref vb])), (va, .inl (cY 0, 9, .inl (m_nf (m_all f cnt)))), (vr, .inl (cY 0, 36, .inl (m_nf rv)))] H2 := hP
    have hD : va_D A [(mx, .inr (7, [.ref va, .ref vk, .ref vr, .int (nI (rl - 1)), .ref vs, .int (nI ik), .int (nI 0), .ref vt, .int (nI tl), .int (nI ta), .int yr, .int ys, .int yo, .int yf, .int ye, .ref vc, .ref vb])), (va, .inl (cY 0, 9, .inl (m_nf (m_all f cnt)))), (vr, .inl (cY 0, 36, .inl (m_nf rv)))] := hD
    refine lv_iconst (v := nI 0) hx hb dX7_undo_28 (by decide) ?_
    refine lv_istore_n (lv' := [(1, .int (nI 0)), (0, .ref mx)]) hx hb dX7_undo_29 rfl hl (by decide) rfl (fun ls hl => ?_)
    rw [show m_nf (m_all f cnt) = m_nf (m_mix (m_all f cnt) (fun j => rv (9 * (rl - 1) + j)) 0) from congrArg m_nf (m_mix0 _ _)] at hP hD
    have hP : va_P D vwCl [(mx, .inr (7, [.ref va, .ref vk, .ref vr, .int (nI (rl - 1)), .ref vs, .int (nI ik), .int (nI 0), .ref vt, .int (nI tl), .int (nI ta), .int yr, .int ys, .int yo, .int yf, .int ye, .ref vc, .ref vb])), (va, .inl (cY 0, 9, .inl (m_nf (m_mix (m_all f cnt) (fun j => rv (9 * (rl - 1) + j)) 0)))), (vr, .inl (cY 0, 36, .inl (m_nf rv)))] H2 := hP
    have hD : va_D A [(mx, .inr (7, [.ref va, .ref vk, .ref vr, .int (nI (rl - 1)), .ref vs, .int (nI ik), .int (nI 0), .ref vt, .int (nI tl), .int (nI ta), .int yr, .int ys, .int yo, .int yf, .int ye, .ref vc, .ref vb])), (va, .inl (cY 0, 9, .inl (m_nf (m_mix (m_all f cnt) (fun j => rv (9 * (rl - 1) + j)) 0)))), (vr, .inl (cY 0, 36, .inl (m_nf rv)))] := hD
    have lp30_3 : ∀ (nn : Nat) (k : Nat) (H : Heap) (locs : List Loc) (ls : Array Slot), (k ≤ 9) → 9 - k < nn → va_P D vwCl [(mx, .inr (7, [.ref va, .ref vk, .ref vr, .int (nI (rl - 1)), .ref vs, .int (nI ik), .int (nI 0), .ref vt, .int (nI tl), .int (nI ta), .int yr, .int ys, .int yo, .int yf, .int ye, .ref vc, .ref vb])), (va, .inl (cY 0, 9, .inl (m_nf (m_mix (m_all f cnt) (fun j => rv (9 * (rl - 1) + j)) k)))), (vr, .inl (cY 0, 36, .inl (m_nf rv)))] H → va_D A [(mx, .inr (7, [.ref va, .ref vk, .ref vr, .int (nI (rl - 1)), .ref vs, .int (nI ik), .int (nI 0), .ref vt, .int (nI tl), .int (nI ta), .int yr, .int ys, .int yo, .int yf, .int ye, .ref vc, .ref vb])), (va, .inl (cY 0, 9, .inl (m_nf (m_mix (m_all f cnt) (fun j => rv (9 * (rl - 1) + j)) k)))), (vr, .inl (cY 0, 36, .inl (m_nf rv)))] → va_S A s.heap H locs → lv_has ls 2 [(0, .ref mx), (1, .int (nI k))] → W p l e { frames := 0, cells := 0, slots := 0, locals := 0 } s m ([.ref mx] : List Value).toArray below meth c H locs 0 0 Q (F0 m 30 ls []) := by
      intro nn
      induction nn with
      | zero => intros; omega
      | succ nn ih30 =>
        intro k H locs ls hk hmz hP hD hS hl
        refine lv_iload_n hx hb dX7_undo_30 rfl (lv_at hl 1 rfl) ?_
        refine lv_bipush (v := nI 9) hx hb dX7_undo_31 (by decide) ?_
        refine lv_icmp_ge (tgt := 62) hx hb dX7_undo_33 (by decide) (fun c33 => ?_) (fun c33 => ?_)
        · have c33 : 9 ≤ k := (nI_leI (a := 9) (b := k) (by first | omega | exact Nat.lt_of_le_of_lt Nat.and_le_right (by decide) | exact Nat.lt_trans (nm_lt _ _) (by decide) | exact Nat.lt_trans (np_lt _ _) (by decide) | exact Nat.lt_trans (p_at_lt htx) (by decide)) (by first | omega | exact Nat.lt_of_le_of_lt Nat.and_le_right (by decide) | exact Nat.lt_trans (nm_lt _ _) (by decide) | exact Nat.lt_trans (np_lt _ _) (by decide) | exact Nat.lt_trans (p_at_lt htx) (by decide))).mp c33
          have k9 : k = 9 := by omega
          subst k9
          rw [show m_nf (m_mix (m_all f cnt) (fun j => rv (9 * (rl - 1) + j)) 9) = m_nf (m_all g0 t0) from congrArg m_nf (m_mixE' (fun j hj => (show rv (9 * (rl - 1) + j) = m_all g0 t0 j from (hrec 0 j hz hj).trans (hg j hj))) (m_all_z _ _) (m_all_z _ _))] at hP hD
          have hP : va_P D vwCl [(mx, .inr (7, [.ref va, .ref vk, .ref vr, .int (nI (rl - 1)), .ref vs, .int (nI ik), .int (nI 0), .ref vt, .int (nI tl), .int (nI ta), .int yr, .int ys, .int yo, .int yf, .int ye, .ref vc, .ref vb])), (va, .inl (cY 0, 9, .inl (m_nf (m_all g0 t0)))), (vr, .inl (cY 0, 36, .inl (m_nf rv)))] H := hP
          have hD : va_D A [(mx, .inr (7, [.ref va, .ref vk, .ref vr, .int (nI (rl - 1)), .ref vs, .int (nI ik), .int (nI 0), .ref vt, .int (nI tl), .int (nI ta), .int yr, .int ys, .int yo, .int yf, .int ye, .ref vc, .ref vb])), (va, .inl (cY 0, 9, .inl (m_nf (m_all g0 t0)))), (vr, .inl (cY 0, 36, .inl (m_nf rv)))] := hD
          refine lv_aload_n hx hb dX7_undo_62 rfl (lv_at hl 0 rfl) ?_
          refine va_get (D := D) (ci := 7) (v := .int (nI (rl - 1))) (C := RX7) (T := TX7) (N := 17) hx hb hts hwd1 hown hK hP 0 rfl rfl 3 (by decide) hwd0 (fun _ h9 => h9) rfl dX7_undo_63 ?_
          subst hQ
          exact m_iret C0 hS dX7_undo_66 (u := ()) hP (⟨rfl, n_rec_tail hrec hz⟩)
        · have c33 : ¬ (9 ≤ k) := fun qq9 => c33 ((nI_leI (a := 9) (b := k) (by first | omega | exact Nat.lt_of_le_of_lt Nat.and_le_right (by decide) | exact Nat.lt_trans (nm_lt _ _) (by decide) | exact Nat.lt_trans (np_lt _ _) (by decide) | exact Nat.lt_trans (p_at_lt htx) (by decide)) (by first | omega | exact Nat.lt_of_le_of_lt Nat.and_le_right (by decide) | exact Nat.lt_trans (nm_lt _ _) (by decide) | exact Nat.lt_trans (np_lt _ _) (by decide) | exact Nat.lt_trans (p_at_lt htx) (by decide))).mpr qq9)
          refine lv_aload_n hx hb dX7_undo_36 rfl (lv_at hl 0 rfl) ?_
          refine va_get (D := D) (ci := 7) (v := .ref va) (C := RX7) (T := TX7) (N := 17) hx hb hts hwd1 hown hK hP 0 rfl rfl 0 (by decide) hwd3 (fun _ h9 => h9) rfl dX7_undo_37 ?_
          refine lv_iload_n hx hb dX7_undo_40 rfl (lv_at hl 1 rfl) ?_
          refine lv_aload_n hx hb dX7_undo_41 rfl (lv_at hl 0 rfl) ?_
          refine va_get (D := D) (ci := 7) (v := .ref vr) (C := RX7) (T := TX7) (N := 17) hx hb hts hwd1 hown hK hP 0 rfl rfl 2 (by decide) hwd4 (fun _ h9 => h9) rfl dX7_undo_42 ?_
          refine lv_bipush (v := nI 9) hx hb dX7_undo_45 (by decide) ?_
          refine lv_aload_n hx hb dX7_undo_47 rfl (lv_at hl 0 rfl) ?_
          refine va_get (D := D) (ci := 7) (v := .int (nI (rl - 1))) (C := RX7) (T := TX7) (N := 17) hx hb hts hwd1 hown hK hP 0 rfl rfl 3 (by decide) hwd0 (fun _ h9 => h9) rfl dX7_undo_48 ?_
          refine lv_imul hx hb dX7_undo_51 ?_
          refine lv_topi (nm_r (pk_mul _ _) ?_)
          refine lv_iload_n hx hb dX7_undo_52 rfl (lv_at hl 1 rfl) ?_
          refine lv_iadd hx hb dX7_undo_53 ?_
          refine lv_topi (nm_r (nI_add _ _) ?_)
          refine va_iald hx hb hK hP 2 0 rfl rfl (m_in (n := (9 * (rl - 1)) + k) (by first | assumption | omega) (by decide)) dX7_undo_54 ?_
          refine lv_topi (nm_r (m_ldn (g := rv) (n := (9 * (rl - 1)) + k) (by omega)) ?_)
          refine va_iast hx hb hK hP hD hS 1 0 rfl rfl (m_in (n := k) (by first | assumption | omega) (by decide)) dX7_undo_55 (fun H4 locs hP hD hS => ?_)
          have hP : va_P D vwCl [(mx, .inr (7, [.ref va, .ref vk, .ref vr, .int (nI (rl - 1)), .ref vs, .int (nI ik), .int (nI 0), .ref vt, .int (nI tl), .int (nI ta), .int yr, .int ys, .int yo, .int yf, .int ye, .ref vc, .ref vb])), (va, .inl (cY 0, 9, .inl (upd (m_nf (m_mix (m_all f cnt) (fun j => rv (9 * (rl - 1) + j)) k)) (nI k).toNatClampNeg (nI (rv ((9 * (rl - 1)) + k)))))), (vr, .inl (cY 0, 36, .inl (m_nf rv)))] H4 := hP
          have hD : va_D A [(mx, .inr (7, [.ref va, .ref vk, .ref vr, .int (nI (rl - 1)), .ref vs, .int (nI ik), .int (nI 0), .ref vt, .int (nI tl), .int (nI ta), .int yr, .int ys, .int yo, .int yf, .int ye, .ref vc, .ref vb])), (va, .inl (cY 0, 9, .inl (upd (m_nf (m_mix (m_all f cnt) (fun j => rv (9 * (rl - 1) + j)) k)) (nI k).toNatClampNeg (nI (rv ((9 * (rl - 1)) + k)))))), (vr, .inl (cY 0, 36, .inl (m_nf rv)))] := hD
          rw [m_upd (g := m_mix (m_all f cnt) (fun j => rv (9 * (rl - 1) + j)) k) (n := k) (v := rv ((9 * (rl - 1)) + k)) (by omega)] at hP hD
          have hP : va_P D vwCl [(mx, .inr (7, [.ref va, .ref vk, .ref vr, .int (nI (rl - 1)), .ref vs, .int (nI ik), .int (nI 0), .ref vt, .int (nI tl), .int (nI ta), .int yr, .int ys, .int yo, .int yf, .int ye, .ref vc, .ref vb])), (va, .inl (cY 0, 9, .inl (m_nf (m_up (m_mix (m_all f cnt) (fun j => rv (9 * (rl - 1) + j)) k) k (rv ((9 * (rl - 1)) + k)))))), (vr, .inl (cY 0, 36, .inl (m_nf rv)))] H4 := hP
          have hD : va_D A [(mx, .inr (7, [.ref va, .ref vk, .ref vr, .int (nI (rl - 1)), .ref vs, .int (nI ik), .int (nI 0), .ref vt, .int (nI tl), .int (nI ta), .int yr, .int ys, .int yo, .int yf, .int ye, .ref vc, .ref vb])), (va, .inl (cY 0, 9, .inl (m_nf (m_up (m_mix (m_all f cnt) (fun j => rv (9 * (rl - 1) + j)) k) k (rv ((9 * (rl - 1)) + k)))))), (vr, .inl (cY 0, 36, .inl (m_nf rv)))] := hD
          rw [show m_nf (m_up (m_mix (m_all f cnt) (fun j => rv (9 * (rl - 1) + j)) k) k (rv ((9 * (rl - 1)) + k))) = m_nf (m_mix (m_all f cnt) (fun j => rv (9 * (rl - 1) + j)) (k + 1)) from congrArg m_nf (m_mixS (m_all f cnt) (fun j => rv (9 * (rl - 1) + j)) k)] at hP hD
          have hP : va_P D vwCl [(mx, .inr (7, [.ref va, .ref vk, .ref vr, .int (nI (rl - 1)), .ref vs, .int (nI ik), .int (nI 0), .ref vt, .int (nI tl), .int (nI ta), .int yr, .int ys, .int yo, .int yf, .int ye, .ref vc, .ref vb])), (va, .inl (cY 0, 9, .inl (m_nf (m_mix (m_all f cnt) (fun j => rv (9 * (rl - 1) + j)) (k + 1))))), (vr, .inl (cY 0, 36, .inl (m_nf rv)))] H4 := hP
          have hD : va_D A [(mx, .inr (7, [.ref va, .ref vk, .ref vr, .int (nI (rl - 1)), .ref vs, .int (nI ik), .int (nI 0), .ref vt, .int (nI tl), .int (nI ta), .int yr, .int ys, .int yo, .int yf, .int ye, .ref vc, .ref vb])), (va, .inl (cY 0, 9, .inl (m_nf (m_mix (m_all f cnt) (fun j => rv (9 * (rl - 1) + j)) (k + 1))))), (vr, .inl (cY 0, 36, .inl (m_nf rv)))] := hD
          refine lv_iinc (v := nI (k + 1)) (lv' := [(1, .int (nI (k + 1))), (0, .ref mx)]) hx hb dX7_undo_56 hl (k := 1) rfl (nI_add _ 1) (by decide) rfl (fun ls hl => ?_)
          refine lv_goto (tgt := 30) hx hb dX7_undo_59 (by decide) ?_
          exact ih30 (k + 1) _ _ ls (by first | assumption | omega) (by omega) hP hD hS (lv_sub hl [1, 0] rfl)
    exact lp30_3 _ 0 _ _ ls (by first | assumption | omega) (Nat.lt_succ_self _) hP hD hS (lv_sub hl [1, 0] rfl)
  · have c4 : rl = 0 := (nI_eq (a := rl) (b := 0) (by first | omega | exact Nat.lt_of_le_of_lt Nat.and_le_right (by decide) | exact Nat.lt_trans (nm_lt _ _) (by decide) | exact Nat.lt_trans (np_lt _ _) (by decide) | exact Nat.lt_trans (p_at_lt htx) (by decide)) (by first | omega | exact Nat.lt_of_le_of_lt Nat.and_le_right (by decide) | exact Nat.lt_trans (nm_lt _ _) (by decide) | exact Nat.lt_trans (np_lt _ _) (by decide) | exact Nat.lt_trans (p_at_lt htx) (by decide))).mp c4
    exfalso; omega
set_option maxHeartbeats 4000000 in
set_option maxRecDepth 100000 in
theorem c_X7_takeSnapshot (l : Launch) (D : va_G) (cY : Nat → ClassId) (mx va vk vr vs vt vc vb : Nat) (rl ik th tl ta : Nat) (yr ys yo yf ye : Int32) (f : Nat → Nat) (cnt : Nat) (sf : Nat → Nat) (sn : Nat)  : m_Mi l yX7_takeSnapshot wsX7_takeSnapshot 1 22 D cY [.ref mx] [(mx, .inr (7, [.ref va, .ref vk, .ref vr, .int (nI rl), .ref vs, .int (nI ik), .int (nI th), .ref vt, .int (nI tl), .int (nI ta), .int yr, .int ys, .int yo, .int yf, .int ye, .ref vc, .ref vb])), (va, .inl (cY 0, 9, .inl (m_nf (m_all f cnt)))), (vs, .inl (cY 0, 9, .inl (m_nf (m_all sf sn))))] (fun (res : Int32) (u : Unit) => res = nI (m_xr f 8)) (fun (u : Unit) => [(mx, .inr (7, [.ref va, .ref vk, .ref vr, .int (nI rl), .ref vs, .int (nI 1), .int (nI 0), .ref vt, .int (nI tl), .int (nI ta), .int yr, .int ys, .int yo, .int yf, .int ye, .ref vc, .ref vb])), (va, .inl (cY 0, 9, .inl (m_nf (m_all f cnt)))), (vs, .inl (cY 0, 9, .inl (m_nf (m_all f cnt))))]) := by
  refine m_enterI (cc := cX7_takeSnapshot) (maxL := 2) (ret := (some .int)) (by decide +kernel) rfl (Nat.le_of_ble_eq_true rfl) ?_
  intro p e s m below meth c A ls C0 hP hD hl
  obtain ⟨hx, hb, hr, hml, hts, hown, hlocks, hK, hA⟩ := id C0
  generalize hQ : MQ below _ _ s 0 0 A = Q
  have hS : va_S A s.heap s.heap [] := va_S.rf
  have hl : lv_has ls 2 [(0, .ref mx)] := hl
  have hwd0 := hts (.fieldLink RX7 142 "NimberFieldModel" "isKept" "I") (by decide +kernel)
  have hwd1 := (show ∀ w ∈ u_ws RX7 TX7 17, w ∈ wsX7_takeSnapshot from by decide +kernel)
  have hwd2 := hts (.fieldLink RX7 19 "NimberFieldModel" "snapshot" "[I") (by decide +kernel)
  have hwd3 := hts (.fieldLink RX7 7 "NimberFieldModel" "all" "[I") (by decide +kernel)
  refine lv_iconst (v := nI 0) hx hb dX7_takeSnapshot_0 (by decide) ?_
  refine lv_istore_n (lv' := [(1, .int (nI 0)), (0, .ref mx)]) hx hb dX7_takeSnapshot_1 rfl hl (by decide) rfl (fun ls hl => ?_)
  rw [show m_nf (m_all sf sn) = m_nf (m_mix (m_all sf sn) (m_all f cnt) 0) from congrArg m_nf (m_mix0 _ _)] at hP hD
  have hP : va_P D vwCl [(mx, .inr (7, [.ref va, .ref vk, .ref vr, .int (nI rl), .ref vs, .int (nI ik), .int (nI th), .ref vt, .int (nI tl), .int (nI ta), .int yr, .int ys, .int yo, .int yf, .int ye, .ref vc, .ref vb])), (va, .inl (cY 0, 9, .inl (m_nf (m_all f cnt)))), (vs, .inl (cY 0, 9, .inl (m_nf (m_mix (m_all sf sn) (m_all f cnt) 0))))] s.heap := hP
  have hD : va_D A [(mx, .inr (7, [.ref va, .ref vk, .ref vr, .int (nI rl), .ref vs, .int (nI ik), .int (nI th), .ref vt, .int (nI tl), .int (nI ta), .int yr, .int ys, .int yo, .int yf, .int ye, .ref vc, .ref vb])), (va, .inl (cY 0, 9, .inl (m_nf (m_all f cnt)))), (vs, .inl (cY 0, 9, .inl (m_nf (m_mix (m_all sf sn) (m_all f cnt) 0))))] := hD
  have lp2_1 : ∀ (nn : Nat) (k : Nat) (H : Heap) (locs : List Loc) (ls : Array Slot), (k ≤ 9) → 9 - k < nn → va_P D vwCl [(mx, .inr (7, [.ref va, .ref vk, .ref vr, .int (nI rl), .ref vs, .int (nI ik), .int (nI th), .ref vt, .int (nI tl), .int (nI ta), .int yr, .int ys, .int yo, .int yf, .int ye, .ref vc, .ref vb])), (va, .inl (cY 0, 9, .inl (m_nf (m_all f cnt)))), (vs, .inl (cY 0, 9, .inl (m_nf (m_mix (m_all sf sn) (m_all f cnt) k))))] H → va_D A [(mx, .inr (7, [.ref va, .ref vk, .ref vr, .int (nI rl), .ref vs, .int (nI ik), .int (nI th), .ref vt, .int (nI tl), .int (nI ta), .int yr, .int ys, .int yo, .int yf, .int ye, .ref vc, .ref vb])), (va, .inl (cY 0, 9, .inl (m_nf (m_all f cnt)))), (vs, .inl (cY 0, 9, .inl (m_nf (m_mix (m_all sf sn) (m_all f cnt) k))))] → va_S A s.heap H locs → lv_has ls 2 [(0, .ref mx), (1, .int (nI k))] → W p l e { frames := 1, cells := 0, slots := 0, locals := 22 } s m ([.ref mx] : List Value).toArray below meth c H locs 0 0 Q (F0 m 2 ls []) := by
    intro nn
    induction nn with
    | zero => intros; omega
    | succ nn ih2 =>
      intro k H locs ls hk hmz hP hD hS hl
      refine lv_iload_n hx hb dX7_takeSnapshot_2 rfl (lv_at hl 1 rfl) ?_
      refine lv_bipush (v := nI 9) hx hb dX7_takeSnapshot_3 (by decide) ?_
      refine lv_icmp_ge (tgt := 26) hx hb dX7_takeSnapshot_5 (by decide) (fun c5 => ?_) (fun c5 => ?_)
      · have c5 : 9 ≤ k := (nI_leI (a := 9) (b := k) (by first | omega | exact Nat.lt_of_le_of_lt Nat.and_le_right (by decide) | exact Nat.lt_trans (nm_lt _ _) (by decide) | exact Nat.lt_trans (np_lt _ _) (by decide) | exact Nat.lt_trans (p_at_lt htx) (by decide)) (by first | omega | exact Nat.lt_of_le_of_lt Nat.and_le_right (by decide) | exact Nat.lt_trans (nm_lt _ _) (by decide) | exact Nat.lt_trans (np_lt _ _) (by decide) | exact Nat.lt_trans (p_at_lt htx) (by decide))).mp c5
        have k9 : k = 9 := by omega
        subst k9
        rw [show m_nf (m_mix (m_all sf sn) (m_all f cnt) 9) = m_nf (m_all f cnt) from congrArg m_nf (m_mixE (m_all_z _ _) (m_all_z _ _))] at hP hD
        have hP : va_P D vwCl [(mx, .inr (7, [.ref va, .ref vk, .ref vr, .int (nI rl), .ref vs, .int (nI ik), .int (nI th), .ref vt, .int (nI tl), .int (nI ta), .int yr, .int ys, .int yo, .int yf, .int ye, .ref vc, .ref vb])), (va, .inl (cY 0, 9, .inl (m_nf (m_all f cnt)))), (vs, .inl (cY 0, 9, .inl (m_nf (m_all f cnt))))] H := hP
        have hD : va_D A [(mx, .inr (7, [.ref va, .ref vk, .ref vr, .int (nI rl), .ref vs, .int (nI ik), .int (nI th), .ref vt, .int (nI tl), .int (nI ta), .int yr, .int ys, .int yo, .int yf, .int ye, .ref vc, .ref vb])), (va, .inl (cY 0, 9, .inl (m_nf (m_all f cnt)))), (vs, .inl (cY 0, 9, .inl (m_nf (m_all f cnt))))] := hD
        refine lv_aload_n hx hb dX7_takeSnapshot_26 rfl (lv_at hl 0 rfl) ?_
        refine lv_iconst (v := nI 1) hx hb dX7_takeSnapshot_27 (by decide) ?_
        refine va_put (D := D) (ci := 7) (v := .int (nI 1)) (ty := .int) (C := RX7) (T := TX7) (N := 17) hx hb hts hwd1 tyX7 tyX7_ok nmX7 hown hK hP hD hS 0 rfl rfl 5 (by decide) hwd0 (fun _ h9 => h9) rfl (by decide +kernel) rfl rfl (Nat.le_of_ble_eq_true rfl) dX7_takeSnapshot_28 (fun H2 locs hP hD hS => ?_)
        have hP : va_P D vwCl [(mx, .inr (7, [.ref va, .ref vk, .ref vr, .int (nI rl), .ref vs, .int (nI 1), .int (nI th), .ref vt, .int (nI tl), .int (nI ta), .int yr, .int ys, .int yo, .int yf, .int ye, .ref vc, .ref vb])), (va, .inl (cY 0, 9, .inl (m_nf (m_all f cnt)))), (vs, .inl (cY 0, 9, .inl (m_nf (m_all f cnt))))] H2 := hP
        have hD : va_D A [(mx, .inr (7, [.ref va, .ref vk, .ref vr, .int (nI rl), .ref vs, .int (nI 1), .int (nI th), .ref vt, .int (nI tl), .int (nI ta), .int yr, .int ys, .int yo, .int yf, .int ye, .ref vc, .ref vb])), (va, .inl (cY 0, 9, .inl (m_nf (m_all f cnt)))), (vs, .inl (cY 0, 9, .inl (m_nf (m_all f cnt))))] := hD
        refine lv_aload_n hx hb dX7_takeSnapshot_31 rfl (lv_at hl 0 rfl) ?_
        refine lv_aload_n hx hb dX7_takeSnapshot_32 rfl (lv_at hl 0 rfl) ?_
        refine m_callVi (As := []) (rest := [.ref mx]) C0 hl hP hD hS (c_X7_sum l D cY mx va vk vr vs vt vc vb rl 1 th tl ta yr ys yo yf ye f cnt ) (cwV 0 hts gX7_takeSnapshot_X7_sum rfl rfl rfl (by decide +kernel) ⟨Nat.le_of_ble_eq_true rfl, Nat.le_of_ble_eq_true rfl⟩) dX7_takeSnapshot_33 [0, 1] rfl rfl 0 rfl rfl rfl rfl (Nat.le_of_ble_eq_true rfl) (Nat.zero_le _) (Nat.zero_le _) (fun _ => rfl) (fun r4 u H3 locs hw hP hD hS => ?_)
        try dsimp only at hw
        obtain rfl := hw
        have hP : va_P D vwCl [(mx, .inr (7, [.ref va, .ref vk, .ref vr, .int (nI rl), .ref vs, .int (nI 1), .int (nI th), .ref vt, .int (nI tl), .int (nI ta), .int yr, .int ys, .int yo, .int yf, .int ye, .ref vc, .ref vb])), (va, .inl (cY 0, 9, .inl (m_nf (m_all f cnt)))), (vs, .inl (cY 0, 9, .inl (m_nf (m_all f cnt))))] H3 := hP
        have hD : va_D A [(mx, .inr (7, [.ref va, .ref vk, .ref vr, .int (nI rl), .ref vs, .int (nI 1), .int (nI th), .ref vt, .int (nI tl), .int (nI ta), .int yr, .int ys, .int yo, .int yf, .int ye, .ref vc, .ref vb])), (va, .inl (cY 0, 9, .inl (m_nf (m_all f cnt)))), (vs, .inl (cY 0, 9, .inl (m_nf (m_all f cnt))))] := hD
        refine m_callVi (As := [.int (nI (m_xr f 8))]) (rest := []) C0 hl hP hD hS (c_X7_told l D cY mx va vk vr vs vt vc vb rl 1 th tl ta yr ys yo yf ye (nI (m_xr f 8)) ) (cwV 1 hts gX7_takeSnapshot_X7_told rfl rfl rfl (by decide +kernel) ⟨Nat.le_of_ble_eq_true rfl, Nat.le_of_ble_eq_true rfl⟩) dX7_takeSnapshot_36 [0] rfl rfl 0 rfl rfl rfl rfl (Nat.le_of_ble_eq_true rfl) (Nat.zero_le _) (Nat.zero_le _) (fun _ => rfl) (fun r6 u H5 locs hw hP hD hS => ?_)
        try dsimp only at hw
        obtain rfl := hw
        have hP : va_P D vwCl [(mx, .inr (7, [.ref va, .ref vk, .ref vr, .int (nI rl), .ref vs, .int (nI 1), .int (nI 0), .ref vt, .int (nI tl), .int (nI ta), .int yr, .int ys, .int yo, .int yf, .int ye, .ref vc, .ref vb])), (va, .inl (cY 0, 9, .inl (m_nf (m_all f cnt)))), (vs, .inl (cY 0, 9, .inl (m_nf (m_all f cnt))))] H5 := hP
        have hD : va_D A [(mx, .inr (7, [.ref va, .ref vk, .ref vr, .int (nI rl), .ref vs, .int (nI 1), .int (nI 0), .ref vt, .int (nI tl), .int (nI ta), .int yr, .int ys, .int yo, .int yf, .int ye, .ref vc, .ref vb])), (va, .inl (cY 0, 9, .inl (m_nf (m_all f cnt)))), (vs, .inl (cY 0, 9, .inl (m_nf (m_all f cnt))))] := hD
        subst hQ
        exact m_iret C0 hS dX7_takeSnapshot_39 (u := ()) hP (by first | trivial | rfl | omega)
      · have c5 : ¬ (9 ≤ k) := fun qq9 => c5 ((nI_leI (a := 9) (b := k) (by first | omega | exact Nat.lt_of_le_of_lt Nat.and_le_right (by decide) | exact Nat.lt_trans (nm_lt _ _) (by decide) | exact Nat.lt_trans (np_lt _ _) (by decide) | exact Nat.lt_trans (p_at_lt htx) (by decide)) (by first | omega | exact Nat.lt_of_le_of_lt Nat.and_le_right (by decide) | exact Nat.lt_trans (nm_lt _ _) (by decide) | exact Nat.lt_trans (np_lt _ _) (by decide) | exact Nat.lt_trans (p_at_lt htx) (by decide))).mpr qq9)
        refine lv_aload_n hx hb dX7_takeSnapshot_8 rfl (lv_at hl 0 rfl) ?_
        refine va_get (D := D) (ci := 7) (v := .ref vs) (C := RX7) (T := TX7) (N := 17) hx hb hts hwd1 hown hK hP 0 rfl rfl 4 (by decide) hwd2 (fun _ h9 => h9) rfl dX7_takeSnapshot_9 ?_
        refine lv_iload_n hx hb dX7_takeSnapshot_12 rfl (lv_at hl 1 rfl) ?_
        refine lv_aload_n hx hb dX7_takeSnapshot_13 rfl (lv_at hl 0 rfl) ?_
        refine va_get (D := D) (ci := 7) (v := .ref va) (C := RX7) (T := TX7) (N := 17) hx hb hts hwd1 hown hK hP 0 rfl rfl 0 (by decide) hwd3 (fun _ h9 => h9) rfl dX7_takeSnapshot_14 ?_
        refine lv_iload_n hx hb dX7_takeSnapshot_17 rfl (lv_at hl 1 rfl) ?_
        refine va_iald hx hb hK hP 1 0 rfl rfl (m_in (n := k) (by first | assumption | omega) (by decide)) dX7_takeSnapshot_18 ?_
        refine lv_topi (nm_r (m_ldn (g := m_all f cnt) (n := k) (by omega)) ?_)
        refine va_iast hx hb hK hP hD hS 2 0 rfl rfl (m_in (n := k) (by first | assumption | omega) (by decide)) dX7_takeSnapshot_19 (fun H7 locs hP hD hS => ?_)
        have hP : va_P D vwCl [(mx, .inr (7, [.ref va, .ref vk, .ref vr, .int (nI rl), .ref vs, .int (nI ik), .int (nI th), .ref vt, .int (nI tl), .int (nI ta), .int yr, .int ys, .int yo, .int yf, .int ye, .ref vc, .ref vb])), (va, .inl (cY 0, 9, .inl (m_nf (m_all f cnt)))), (vs, .inl (cY 0, 9, .inl (upd (m_nf (m_mix (m_all sf sn) (m_all f cnt) k)) (nI k).toNatClampNeg (nI ((m_all f cnt) k)))))] H7 := hP
        have hD : va_D A [(mx, .inr (7, [.ref va, .ref vk, .ref vr, .int (nI rl), .ref vs, .int (nI ik), .int (nI th), .ref vt, .int (nI tl), .int (nI ta), .int yr, .int ys, .int yo, .int yf, .int ye, .ref vc, .ref vb])), (va, .inl (cY 0, 9, .inl (m_nf (m_all f cnt)))), (vs, .inl (cY 0, 9, .inl (upd (m_nf (m_mix (m_all sf sn) (m_all f cnt) k)) (nI k).toNatClampNeg (nI ((m_all f cnt) k)))))] := hD
        rw [m_upd (g := m_mix (m_all sf sn) (m_all f cnt) k) (n := k) (v := (m_all f cnt) k) (by omega)] at hP hD
        have hP : va_P D vwCl [(mx, .inr (7, [.ref va, .ref vk, .ref vr, .int (nI rl), .ref vs, .int (nI ik), .int (nI th), .ref vt, .int (nI tl), .int (nI ta), .int yr, .int ys, .int yo, .int yf, .int ye, .ref vc, .ref vb])), (va, .inl (cY 0, 9, .inl (m_nf (m_all f cnt)))), (vs, .inl (cY 0, 9, .inl (m_nf (m_up (m_mix (m_all sf sn) (m_all f cnt) k) k ((m_all f cnt) k)))))] H7 := hP
        have hD : va_D A [(mx, .inr (7, [.ref va, .ref vk, .ref vr, .int (nI rl), .ref vs, .int (nI ik), .int (nI th), .ref vt, .int (nI tl), .int (nI ta), .int yr, .int ys, .int yo, .int yf, .int ye, .ref vc, .ref vb])), (va, .inl (cY 0, 9, .inl (m_nf (m_all f cnt)))), (vs, .inl (cY 0, 9, .inl (m_nf (m_up (m_mix (m_all sf sn) (m_all f cnt) k) k ((m_all f cnt) k)))))] := hD
        rw [show m_nf (m_up (m_mix (m_all sf sn) (m_all f cnt) k) k ((m_all f cnt) k)) = m_nf (m_mix (m_all sf sn) (m_all f cnt) (k + 1)) from congrArg m_nf (m_mixS _ _ k)] at hP hD
        have hP : va_P D vwCl [(mx, .inr (7, [.ref va, .ref vk, .ref vr, .int (nI rl), .ref vs, .int (nI ik), .int (nI th), .ref vt, .int (nI tl), .int (nI ta), .int yr, .int ys, .int yo, .int yf, .int ye, .ref vc, .ref vb])), (va, .inl (cY 0, 9, .inl (m_nf (m_all f cnt)))), (vs, .inl (cY 0, 9, .inl (m_nf (m_mix (m_all sf sn) (m_all f cnt) (k + 1)))))] H7 := hP
        have hD : va_D A [(mx, .inr (7, [.ref va, .ref vk, .ref vr, .int (nI rl), .ref vs, .int (nI ik), .int (nI th), .ref vt, .int (nI tl), .int (nI ta), .int yr, .int ys, .int yo, .int yf, .int ye, .ref vc, .ref vb])), (va, .inl (cY 0, 9, .inl (m_nf (m_all f cnt)))), (vs, .inl (cY 0, 9, .inl (m_nf (m_mix (m_all sf sn) (m_all f cnt) (k + 1)))))] := hD
        refine lv_iinc (v := nI (k + 1)) (lv' := [(1, .int (nI (k + 1))), (0, .ref mx)]) hx hb dX7_takeSnapshot_20 hl (k := 1) rfl (nI_add _ 1) (by decide) rfl (fun ls hl => ?_)
        refine lv_goto (tgt := 2) hx hb dX7_takeSnapshot_23 (by decide) ?_
        exact ih2 (k + 1) _ _ ls (by first | assumption | omega) (by omega) hP hD hS (lv_sub hl [1, 0] rfl)
  exact lp2_1 _ 0 _ _ ls (by first | assumption | omega) (Nat.lt_succ_self _) hP hD hS (lv_sub hl [1, 0] rfl)
set_option maxHeartbeats 4000000 in
set_option maxRecDepth 100000 in
theorem c_X7_restoreSnapshot_f1 (l : Launch) (D : va_G) (cY : Nat → ClassId) (mx va vk vr vs vt vc vb : Nat) (rl ik th tl ta : Nat) (yr ys yo yf ye : Int32) (hz : ik = 0) : m_Mi l yX7_restoreSnapshot wsX7_restoreSnapshot 1 21 D cY [.ref mx] [(mx, .inr (7, [.ref va, .ref vk, .ref vr, .int (nI rl), .ref vs, .int (nI ik), .int (nI th), .ref vt, .int (nI tl), .int (nI ta), .int yr, .int ys, .int yo, .int yf, .int ye, .ref vc, .ref vb]))] (fun (res : Int32) (u : Unit) => res = nI 0) (fun (u : Unit) => [(mx, .inr (7, [.ref va, .ref vk, .ref vr, .int (nI rl), .ref vs, .int (nI ik), .int (nI 1), .ref vt, .int (nI tl), .int (nI ta), .int yr, .int ys, .int yo, .int yf, .int ye, .ref vc, .ref vb]))]) := by
  refine m_enterI (cc := cX7_restoreSnapshot) (maxL := 2) (ret := (some .int)) (by decide +kernel) rfl (Nat.le_of_ble_eq_true rfl) ?_
  intro p e s m below meth c A ls C0 hP hD hl
  obtain ⟨hx, hb, hr, hml, hts, hown, hlocks, hK, hA⟩ := id C0
  generalize hQ : MQ below _ _ s 0 0 A = Q
  have hS : va_S A s.heap s.heap [] := va_S.rf
  have hl : lv_has ls 2 [(0, .ref mx)] := hl
  have hwd0 := hts (.fieldLink RX7 142 "NimberFieldModel" "isKept" "I") (by decide +kernel)
  have hwd1 := (show ∀ w ∈ u_ws RX7 TX7 17, w ∈ wsX7_restoreSnapshot from by decide +kernel)
  refine lv_aload_n hx hb dX7_restoreSnapshot_0 rfl (lv_at hl 0 rfl) ?_
  refine va_get (D := D) (ci := 7) (v := .int (nI ik)) (C := RX7) (T := TX7) (N := 17) hx hb hts hwd1 hown hK hP 0 rfl rfl 5 (by decide) hwd0 (fun _ h9 => h9) rfl dX7_restoreSnapshot_1 ?_
  refine lv_if_ne (tgt := 13) hx hb dX7_restoreSnapshot_4 (by decide) (fun c4 => ?_) (fun c4 => ?_)
  · have c4 : ¬ (ik = 0) := fun qq9 => c4 ((nI_eq (a := ik) (b := 0) (by first | omega | exact Nat.lt_of_le_of_lt Nat.and_le_right (by decide) | exact Nat.lt_trans (nm_lt _ _) (by decide) | exact Nat.lt_trans (np_lt _ _) (by decide) | exact Nat.lt_trans (p_at_lt htx) (by decide)) (by first | omega | exact Nat.lt_of_le_of_lt Nat.and_le_right (by decide) | exact Nat.lt_trans (nm_lt _ _) (by decide) | exact Nat.lt_trans (np_lt _ _) (by decide) | exact Nat.lt_trans (p_at_lt htx) (by decide))).mpr qq9)
    exfalso; omega
  · have c4 : ik = 0 := (nI_eq (a := ik) (b := 0) (by first | omega | exact Nat.lt_of_le_of_lt Nat.and_le_right (by decide) | exact Nat.lt_trans (nm_lt _ _) (by decide) | exact Nat.lt_trans (np_lt _ _) (by decide) | exact Nat.lt_trans (p_at_lt htx) (by decide)) (by first | omega | exact Nat.lt_of_le_of_lt Nat.and_le_right (by decide) | exact Nat.lt_trans (nm_lt _ _) (by decide) | exact Nat.lt_trans (np_lt _ _) (by decide) | exact Nat.lt_trans (p_at_lt htx) (by decide))).mp c4
    refine lv_aload_n hx hb dX7_restoreSnapshot_7 rfl (lv_at hl 0 rfl) ?_
    refine lv_iconst (v := nI 1) hx hb dX7_restoreSnapshot_8 (by decide) ?_
    refine m_callVi (As := [.int (nI 1)]) (rest := []) C0 hl hP hD hS (c_X7_fails l D cY mx va vk vr vs vt vc vb rl ik th tl ta yr ys yo yf ye 1 ) (cwV 1 hts gX7_restoreSnapshot_X7_fails rfl rfl rfl (by decide +kernel) ⟨Nat.le_of_ble_eq_true rfl, Nat.le_of_ble_eq_true rfl⟩) dX7_restoreSnapshot_9 [0] rfl rfl 0 rfl rfl rfl rfl (Nat.le_of_ble_eq_true rfl) (Nat.zero_le _) (Nat.zero_le _) (fun _ => rfl) (fun r2 u H1 locs hw hP hD hS => ?_)
    try dsimp only at hw
    obtain rfl := hw
    have hP : va_P D vwCl [(mx, .inr (7, [.ref va, .ref vk, .ref vr, .int (nI rl), .ref vs, .int (nI ik), .int (nI 1), .ref vt, .int (nI tl), .int (nI ta), .int yr, .int ys, .int yo, .int yf, .int ye, .ref vc, .ref vb]))] H1 := hP
    have hD : va_D A [(mx, .inr (7, [.ref va, .ref vk, .ref vr, .int (nI rl), .ref vs, .int (nI ik), .int (nI 1), .ref vt, .int (nI tl), .int (nI ta), .int yr, .int ys, .int yo, .int yf, .int ye, .ref vc, .ref vb]))] := hD
    subst hQ
    exact m_iret C0 hS dX7_restoreSnapshot_12 (u := ()) hP (by first | trivial | rfl | omega)
set_option maxHeartbeats 4000000 in
set_option maxRecDepth 100000 in
theorem c_X7_restoreSnapshot_ok (l : Launch) (D : va_G) (cY : Nat → ClassId) (mx va vk vr vs vt vc vb : Nat) (rl ik th tl ta : Nat) (yr ys yo yf ye : Int32) (f : Nat → Nat) (cnt : Nat) (rv : Nat → Nat) (hh : Nat → Nat → Nat) (sf : Nat → Nat) (sn : Nat) (hrl : rl ≤ 4) (hrec : n_rec rl rv hh) (hz : ik = 1) : m_Mi l yX7_restoreSnapshot wsX7_restoreSnapshot 1 22 D cY [.ref mx] [(mx, .inr (7, [.ref va, .ref vk, .ref vr, .int (nI rl), .ref vs, .int (nI ik), .int (nI th), .ref vt, .int (nI tl), .int (nI ta), .int yr, .int ys, .int yo, .int yf, .int ye, .ref vc, .ref vb])), (va, .inl (cY 0, 9, .inl (m_nf (m_all f cnt)))), (vr, .inl (cY 0, 36, .inl (m_nf rv))), (vs, .inl (cY 0, 9, .inl (m_nf (m_all sf sn))))] (fun (res : Int32) (u : (Nat → Nat)) => (res = nI (m_xr sf 8)) ∧ (n_rec (min (rl + 1) 4) u (n_push (m_all f cnt) hh))) (fun (u : (Nat → Nat)) => [(mx, .inr (7, [.ref va, .ref vk, .ref vr, .int (nI (min (rl + 1) 4)), .ref vs, .int (nI ik), .int (nI 0), .ref vt, .int (nI tl), .int (nI ta), .int yr, .int ys, .int yo, .int yf, .int ye, .ref vc, .ref vb])), (va, .inl (cY 0, 9, .inl (m_nf (m_all sf sn)))), (vr, .inl (cY 0, 36, .inl (m_nf u))), (vs, .inl (cY 0, 9, .inl (m_nf (m_all sf sn))))]) := by
  refine m_enterI (cc := cX7_restoreSnapshot) (maxL := 2) (ret := (some .int)) (by decide +kernel) rfl (Nat.le_of_ble_eq_true rfl) ?_
  intro p e s m below meth c A ls C0 hP hD hl
  obtain ⟨hx, hb, hr, hml, hts, hown, hlocks, hK, hA⟩ := id C0
  generalize hQ : MQ below _ _ s 0 0 A = Q
  have hS : va_S A s.heap s.heap [] := va_S.rf
  have hl : lv_has ls 2 [(0, .ref mx)] := hl
  have hwd0 := hts (.fieldLink RX7 142 "NimberFieldModel" "isKept" "I") (by decide +kernel)
  have hwd1 := (show ∀ w ∈ u_ws RX7 TX7 17, w ∈ wsX7_restoreSnapshot from by decide +kernel)
  have hwd2 := hts (.fieldLink RX7 7 "NimberFieldModel" "all" "[I") (by decide +kernel)
  have hwd3 := hts (.fieldLink RX7 19 "NimberFieldModel" "snapshot" "[I") (by decide +kernel)
  refine lv_aload_n hx hb dX7_restoreSnapshot_0 rfl (lv_at hl 0 rfl) ?_
  refine va_get (D := D) (ci := 7) (v := .int (nI ik)) (C := RX7) (T := TX7) (N := 17) hx hb hts hwd1 hown hK hP 0 rfl rfl 5 (by decide) hwd0 (fun _ h9 => h9) rfl dX7_restoreSnapshot_1 ?_
  refine lv_if_ne (tgt := 13) hx hb dX7_restoreSnapshot_4 (by decide) (fun c4 => ?_) (fun c4 => ?_)
  · have c4 : ¬ (ik = 0) := fun qq9 => c4 ((nI_eq (a := ik) (b := 0) (by first | omega | exact Nat.lt_of_le_of_lt Nat.and_le_right (by decide) | exact Nat.lt_trans (nm_lt _ _) (by decide) | exact Nat.lt_trans (np_lt _ _) (by decide) | exact Nat.lt_trans (p_at_lt htx) (by decide)) (by first | omega | exact Nat.lt_of_le_of_lt Nat.and_le_right (by decide) | exact Nat.lt_trans (nm_lt _ _) (by decide) | exact Nat.lt_trans (np_lt _ _) (by decide) | exact Nat.lt_trans (p_at_lt htx) (by decide))).mpr qq9)
    refine lv_aload_n hx hb dX7_restoreSnapshot_13 rfl (lv_at hl 0 rfl) ?_
    refine m_callVv (As := []) (rest := []) C0 hl hP hD hS (c_X7_records l D cY mx va vk vr vs vt vc vb rl ik th tl ta yr ys yo yf ye f cnt rv hh (by first | assumption | omega | exact nm_lt _ _ | exact np_lt _ _ | decide) (by first | assumption | omega | exact nm_lt _ _ | exact np_lt _ _ | decide)) (cwV 0 hts gX7_restoreSnapshot_X7_records rfl rfl rfl (by decide +kernel) ⟨Nat.le_of_ble_eq_true rfl, Nat.le_of_ble_eq_true rfl⟩) dX7_restoreSnapshot_14 [0, 1, 2] rfl rfl 0 rfl rfl rfl rfl (Nat.le_of_ble_eq_true rfl) (Nat.zero_le _) (Nat.zero_le _) (fun _ => rfl) (fun u H1 locs hw hP hD hS => ?_)
    obtain ⟨rv9_2, rfl⟩ : ∃ z, z = u := ⟨_, rfl⟩
    try dsimp only at hw
    have hq3 := hw; clear hw
    have hP : va_P D vwCl [(mx, .inr (7, [.ref va, .ref vk, .ref vr, .int (nI (min (rl + 1) 4)), .ref vs, .int (nI ik), .int (nI 0), .ref vt, .int (nI tl), .int (nI ta), .int yr, .int ys, .int yo, .int yf, .int ye, .ref vc, .ref vb])), (va, .inl (cY 0, 9, .inl (m_nf (m_all f cnt)))), (vr, .inl (cY 0, 36, .inl (m_nf rv9_2))), (vs, .inl (cY 0, 9, .inl (m_nf (m_all sf sn))))] H1 := hP
    have hD : va_D A [(mx, .inr (7, [.ref va, .ref vk, .ref vr, .int (nI (min (rl + 1) 4)), .ref vs, .int (nI ik), .int (nI 0), .ref vt, .int (nI tl), .int (nI ta), .int yr, .int ys, .int yo, .int yf, .int ye, .ref vc, .ref vb])), (va, .inl (cY 0, 9, .inl (m_nf (m_all f cnt)))), (vr, .inl (cY 0, 36, .inl (m_nf rv9_2))), (vs, .inl (cY 0, 9, .inl (m_nf (m_all sf sn))))] := hD
    refine lv_iconst (v := nI 0) hx hb dX7_restoreSnapshot_17 (by decide) ?_
    refine lv_istore_n (lv' := [(1, .int (nI 0)), (0, .ref mx)]) hx hb dX7_restoreSnapshot_18 rfl hl (by decide) rfl (fun ls hl => ?_)
    rw [show m_nf (m_all f cnt) = m_nf (m_mix (m_all f cnt) (m_all sf sn) 0) from congrArg m_nf (m_mix0 _ _)] at hP hD
    have hP : va_P D vwCl [(mx, .inr (7, [.ref va, .ref vk, .ref vr, .int (nI (min (rl + 1) 4)), .ref vs, .int (nI ik), .int (nI 0), .ref vt, .int (nI tl), .int (nI ta), .int yr, .int ys, .int yo, .int yf, .int ye, .ref vc, .ref vb])), (va, .inl (cY 0, 9, .inl (m_nf (m_mix (m_all f cnt) (m_all sf sn) 0)))), (vr, .inl (cY 0, 36, .inl (m_nf rv9_2))), (vs, .inl (cY 0, 9, .inl (m_nf (m_all sf sn))))] H1 := hP
    have hD : va_D A [(mx, .inr (7, [.ref va, .ref vk, .ref vr, .int (nI (min (rl + 1) 4)), .ref vs, .int (nI ik), .int (nI 0), .ref vt, .int (nI tl), .int (nI ta), .int yr, .int ys, .int yo, .int yf, .int ye, .ref vc, .ref vb])), (va, .inl (cY 0, 9, .inl (m_nf (m_mix (m_all f cnt) (m_all sf sn) 0)))), (vr, .inl (cY 0, 36, .inl (m_nf rv9_2))), (vs, .inl (cY 0, 9, .inl (m_nf (m_all sf sn))))] := hD
    have lp19_4 : ∀ (nn : Nat) (k : Nat) (H : Heap) (locs : List Loc) (ls : Array Slot), (k ≤ 9) → 9 - k < nn → va_P D vwCl [(mx, .inr (7, [.ref va, .ref vk, .ref vr, .int (nI (min (rl + 1) 4)), .ref vs, .int (nI ik), .int (nI 0), .ref vt, .int (nI tl), .int (nI ta), .int yr, .int ys, .int yo, .int yf, .int ye, .ref vc, .ref vb])), (va, .inl (cY 0, 9, .inl (m_nf (m_mix (m_all f cnt) (m_all sf sn) k)))), (vr, .inl (cY 0, 36, .inl (m_nf rv9_2))), (vs, .inl (cY 0, 9, .inl (m_nf (m_all sf sn))))] H → va_D A [(mx, .inr (7, [.ref va, .ref vk, .ref vr, .int (nI (min (rl + 1) 4)), .ref vs, .int (nI ik), .int (nI 0), .ref vt, .int (nI tl), .int (nI ta), .int yr, .int ys, .int yo, .int yf, .int ye, .ref vc, .ref vb])), (va, .inl (cY 0, 9, .inl (m_nf (m_mix (m_all f cnt) (m_all sf sn) k)))), (vr, .inl (cY 0, 36, .inl (m_nf rv9_2))), (vs, .inl (cY 0, 9, .inl (m_nf (m_all sf sn))))] → va_S A s.heap H locs → lv_has ls 2 [(0, .ref mx), (1, .int (nI k))] → W p l e { frames := 1, cells := 0, slots := 0, locals := 22 } s m ([.ref mx] : List Value).toArray below meth c H locs 0 0 Q (F0 m 19 ls []) := by
      intro nn
      induction nn with
      | zero => intros; omega
      | succ nn ih19 =>
        intro k H locs ls hk hmz hP hD hS hl
        refine lv_iload_n hx hb dX7_restoreSnapshot_19 rfl (lv_at hl 1 rfl) ?_
        refine lv_bipush (v := nI 9) hx hb dX7_restoreSnapshot_20 (by decide) ?_
        refine lv_icmp_ge (tgt := 43) hx hb dX7_restoreSnapshot_22 (by decide) (fun c22 => ?_) (fun c22 => ?_)
        · have c22 : 9 ≤ k := (nI_leI (a := 9) (b := k) (by first | omega | exact Nat.lt_of_le_of_lt Nat.and_le_right (by decide) | exact Nat.lt_trans (nm_lt _ _) (by decide) | exact Nat.lt_trans (np_lt _ _) (by decide) | exact Nat.lt_trans (p_at_lt htx) (by decide)) (by first | omega | exact Nat.lt_of_le_of_lt Nat.and_le_right (by decide) | exact Nat.lt_trans (nm_lt _ _) (by decide) | exact Nat.lt_trans (np_lt _ _) (by decide) | exact Nat.lt_trans (p_at_lt htx) (by decide))).mp c22
          have k9 : k = 9 := by omega
          subst k9
          rw [show m_nf (m_mix (m_all f cnt) (m_all sf sn) 9) = m_nf (m_all sf sn) from congrArg m_nf (m_mixE (m_all_z _ _) (m_all_z _ _))] at hP hD
          have hP : va_P D vwCl [(mx, .inr (7, [.ref va, .ref vk, .ref vr, .int (nI (min (rl + 1) 4)), .ref vs, .int (nI ik), .int (nI 0), .ref vt, .int (nI tl), .int (nI ta), .int yr, .int ys, .int yo, .int yf, .int ye, .ref vc, .ref vb])), (va, .inl (cY 0, 9, .inl (m_nf (m_all sf sn)))), (vr, .inl (cY 0, 36, .inl (m_nf rv9_2))), (vs, .inl (cY 0, 9, .inl (m_nf (m_all sf sn))))] H := hP
          have hD : va_D A [(mx, .inr (7, [.ref va, .ref vk, .ref vr, .int (nI (min (rl + 1) 4)), .ref vs, .int (nI ik), .int (nI 0), .ref vt, .int (nI tl), .int (nI ta), .int yr, .int ys, .int yo, .int yf, .int ye, .ref vc, .ref vb])), (va, .inl (cY 0, 9, .inl (m_nf (m_all sf sn)))), (vr, .inl (cY 0, 36, .inl (m_nf rv9_2))), (vs, .inl (cY 0, 9, .inl (m_nf (m_all sf sn))))] := hD
          refine lv_aload_n hx hb dX7_restoreSnapshot_43 rfl (lv_at hl 0 rfl) ?_
          refine m_callVi (As := []) (rest := []) C0 hl hP hD hS (c_X7_sum l D cY mx va vk vr vs vt vc vb (min (rl + 1) 4) ik 0 tl ta yr ys yo yf ye sf sn ) (cwV 0 hts gX7_restoreSnapshot_X7_sum rfl rfl rfl (by decide +kernel) ⟨Nat.le_of_ble_eq_true rfl, Nat.le_of_ble_eq_true rfl⟩) dX7_restoreSnapshot_44 [0, 1] rfl rfl 0 rfl rfl rfl rfl (Nat.le_of_ble_eq_true rfl) (Nat.zero_le _) (Nat.zero_le _) (fun _ => rfl) (fun r6 u H5 locs hw hP hD hS => ?_)
          try dsimp only at hw
          obtain rfl := hw
          have hP : va_P D vwCl [(mx, .inr (7, [.ref va, .ref vk, .ref vr, .int (nI (min (rl + 1) 4)), .ref vs, .int (nI ik), .int (nI 0), .ref vt, .int (nI tl), .int (nI ta), .int yr, .int ys, .int yo, .int yf, .int ye, .ref vc, .ref vb])), (va, .inl (cY 0, 9, .inl (m_nf (m_all sf sn)))), (vr, .inl (cY 0, 36, .inl (m_nf rv9_2))), (vs, .inl (cY 0, 9, .inl (m_nf (m_all sf sn))))] H5 := hP
          have hD : va_D A [(mx, .inr (7, [.ref va, .ref vk, .ref vr, .int (nI (min (rl + 1) 4)), .ref vs, .int (nI ik), .int (nI 0), .ref vt, .int (nI tl), .int (nI ta), .int yr, .int ys, .int yo, .int yf, .int ye, .ref vc, .ref vb])), (va, .inl (cY 0, 9, .inl (m_nf (m_all sf sn)))), (vr, .inl (cY 0, 36, .inl (m_nf rv9_2))), (vs, .inl (cY 0, 9, .inl (m_nf (m_all sf sn))))] := hD
          subst hQ
          exact m_iret C0 hS dX7_restoreSnapshot_47 (u := rv9_2) hP (⟨rfl, hq3⟩)
        · have c22 : ¬ (9 ≤ k) := fun qq9 => c22 ((nI_leI (a := 9) (b := k) (by first | omega | exact Nat.lt_of_le_of_lt Nat.and_le_right (by decide) | exact Nat.lt_trans (nm_lt _ _) (by decide) | exact Nat.lt_trans (np_lt _ _) (by decide) | exact Nat.lt_trans (p_at_lt htx) (by decide)) (by first | omega | exact Nat.lt_of_le_of_lt Nat.and_le_right (by decide) | exact Nat.lt_trans (nm_lt _ _) (by decide) | exact Nat.lt_trans (np_lt _ _) (by decide) | exact Nat.lt_trans (p_at_lt htx) (by decide))).mpr qq9)
          refine lv_aload_n hx hb dX7_restoreSnapshot_25 rfl (lv_at hl 0 rfl) ?_
          refine va_get (D := D) (ci := 7) (v := .ref va) (C := RX7) (T := TX7) (N := 17) hx hb hts hwd1 hown hK hP 0 rfl rfl 0 (by decide) hwd2 (fun _ h9 => h9) rfl dX7_restoreSnapshot_26 ?_
          refine lv_iload_n hx hb dX7_restoreSnapshot_29 rfl (lv_at hl 1 rfl) ?_
          refine lv_aload_n hx hb dX7_restoreSnapshot_30 rfl (lv_at hl 0 rfl) ?_
          refine va_get (D := D) (ci := 7) (v := .ref vs) (C := RX7) (T := TX7) (N := 17) hx hb hts hwd1 hown hK hP 0 rfl rfl 4 (by decide) hwd3 (fun _ h9 => h9) rfl dX7_restoreSnapshot_31 ?_
          refine lv_iload_n hx hb dX7_restoreSnapshot_34 rfl (lv_at hl 1 rfl) ?_
          refine va_iald hx hb hK hP 3 0 rfl rfl (m_in (n := k) (by first | assumption | omega) (by decide)) dX7_restoreSnapshot_35 ?_
          refine lv_topi (nm_r (m_ldn (g := m_all sf sn) (n := k) (by omega)) ?_)
          refine va_iast hx hb hK hP hD hS 1 0 rfl rfl (m_in (n := k) (by first | assumption | omega) (by decide)) dX7_restoreSnapshot_36 (fun H7 locs hP hD hS => ?_)
          have hP : va_P D vwCl [(mx, .inr (7, [.ref va, .ref vk, .ref vr, .int (nI (min (rl + 1) 4)), .ref vs, .int (nI ik), .int (nI 0), .ref vt, .int (nI tl), .int (nI ta), .int yr, .int ys, .int yo, .int yf, .int ye, .ref vc, .ref vb])), (va, .inl (cY 0, 9, .inl (upd (m_nf (m_mix (m_all f cnt) (m_all sf sn) k)) (nI k).toNatClampNeg (nI ((m_all sf sn) k))))), (vr, .inl (cY 0, 36, .inl (m_nf rv9_2))), (vs, .inl (cY 0, 9, .inl (m_nf (m_all sf sn))))] H7 := hP
          have hD : va_D A [(mx, .inr (7, [.ref va, .ref vk, .ref vr, .int (nI (min (rl + 1) 4)), .ref vs, .int (nI ik), .int (nI 0), .ref vt, .int (nI tl), .int (nI ta), .int yr, .int ys, .int yo, .int yf, .int ye, .ref vc, .ref vb])), (va, .inl (cY 0, 9, .inl (upd (m_nf (m_mix (m_all f cnt) (m_all sf sn) k)) (nI k).toNatClampNeg (nI ((m_all sf sn) k))))), (vr, .inl (cY 0, 36, .inl (m_nf rv9_2))), (vs, .inl (cY 0, 9, .inl (m_nf (m_all sf sn))))] := hD
          rw [m_upd (g := m_mix (m_all f cnt) (m_all sf sn) k) (n := k) (v := (m_all sf sn) k) (by omega)] at hP hD
          have hP : va_P D vwCl [(mx, .inr (7, [.ref va, .ref vk, .ref vr, .int (nI (min (rl + 1) 4)), .ref vs, .int (nI ik), .int (nI 0), .ref vt, .int (nI tl), .int (nI ta), .int yr, .int ys, .int yo, .int yf, .int ye, .ref vc, .ref vb])), (va, .inl (cY 0, 9, .inl (m_nf (m_up (m_mix (m_all f cnt) (m_all sf sn) k) k ((m_all sf sn) k))))), (vr, .inl (cY 0, 36, .inl (m_nf rv9_2))), (vs, .inl (cY 0, 9, .inl (m_nf (m_all sf sn))))] H7 := hP
          have hD : va_D A [(mx, .inr (7, [.ref va, .ref vk, .ref vr, .int (nI (min (rl + 1) 4)), .ref vs, .int (nI ik), .int (nI 0), .ref vt, .int (nI tl), .int (nI ta), .int yr, .int ys, .int yo, .int yf, .int ye, .ref vc, .ref vb])), (va, .inl (cY 0, 9, .inl (m_nf (m_up (m_mix (m_all f cnt) (m_all sf sn) k) k ((m_all sf sn) k))))), (vr, .inl (cY 0, 36, .inl (m_nf rv9_2))), (vs, .inl (cY 0, 9, .inl (m_nf (m_all sf sn))))] := hD
          rw [show m_nf (m_up (m_mix (m_all f cnt) (m_all sf sn) k) k ((m_all sf sn) k)) = m_nf (m_mix (m_all f cnt) (m_all sf sn) (k + 1)) from congrArg m_nf (m_mixS _ _ k)] at hP hD
          have hP : va_P D vwCl [(mx, .inr (7, [.ref va, .ref vk, .ref vr, .int (nI (min (rl + 1) 4)), .ref vs, .int (nI ik), .int (nI 0), .ref vt, .int (nI tl), .int (nI ta), .int yr, .int ys, .int yo, .int yf, .int ye, .ref vc, .ref vb])), (va, .inl (cY 0, 9, .inl (m_nf (m_mix (m_all f cnt) (m_all sf sn) (k + 1))))), (vr, .inl (cY 0, 36, .inl (m_nf rv9_2))), (vs, .inl (cY 0, 9, .inl (m_nf (m_all sf sn))))] H7 := hP
          have hD : va_D A [(mx, .inr (7, [.ref va, .ref vk, .ref vr, .int (nI (min (rl + 1) 4)), .ref vs, .int (nI ik), .int (nI 0), .ref vt, .int (nI tl), .int (nI ta), .int yr, .int ys, .int yo, .int yf, .int ye, .ref vc, .ref vb])), (va, .inl (cY 0, 9, .inl (m_nf (m_mix (m_all f cnt) (m_all sf sn) (k + 1))))), (vr, .inl (cY 0, 36, .inl (m_nf rv9_2))), (vs, .inl (cY 0, 9, .inl (m_nf (m_all sf sn))))] := hD
          refine lv_iinc (v := nI (k + 1)) (lv' := [(1, .int (nI (k + 1))), (0, .ref mx)]) hx hb dX7_restoreSnapshot_37 hl (k := 1) rfl (nI_add _ 1) (by decide) rfl (fun ls hl => ?_)
          refine lv_goto (tgt := 19) hx hb dX7_restoreSnapshot_40 (by decide) ?_
          exact ih19 (k + 1) _ _ ls (by first | assumption | omega) (by omega) hP hD hS (lv_sub hl [1, 0] rfl)
    exact lp19_4 _ 0 _ _ ls (by first | assumption | omega) (Nat.lt_succ_self _) hP hD hS (lv_sub hl [1, 0] rfl)
  · have c4 : ik = 0 := (nI_eq (a := ik) (b := 0) (by first | omega | exact Nat.lt_of_le_of_lt Nat.and_le_right (by decide) | exact Nat.lt_trans (nm_lt _ _) (by decide) | exact Nat.lt_trans (np_lt _ _) (by decide) | exact Nat.lt_trans (p_at_lt htx) (by decide)) (by first | omega | exact Nat.lt_of_le_of_lt Nat.and_le_right (by decide) | exact Nat.lt_trans (nm_lt _ _) (by decide) | exact Nat.lt_trans (np_lt _ _) (by decide) | exact Nat.lt_trans (p_at_lt htx) (by decide))).mp c4
    exfalso; omega
set_option maxHeartbeats 4000000 in
set_option maxRecDepth 100000 in
theorem c_X7_nimberOf_f1 (l : Launch) (D : va_G) (cY : Nat → ClassId) (mx va vk vr vs vt vc vb : Nat) (rl ik th tl ta : Nat) (yr ys yo yf ye : Int32) (x : Int32) (hn : ¬ m_isR x) : m_Mi l yX7_nimberOf wsX7_nimberOf 2 45 D cY [.ref mx, .int x] [(mx, .inr (7, [.ref va, .ref vk, .ref vr, .int (nI rl), .ref vs, .int (nI ik), .int (nI th), .ref vt, .int (nI tl), .int (nI ta), .int yr, .int ys, .int yo, .int yf, .int ye, .ref vc, .ref vb]))] (fun (res : Int32) (u : Unit) => res = nI 0) (fun (u : Unit) => [(mx, .inr (7, [.ref va, .ref vk, .ref vr, .int (nI rl), .ref vs, .int (nI ik), .int (nI 1), .ref vt, .int (nI tl), .int (nI ta), .int yr, .int ys, .int yo, .int yf, .int ye, .ref vc, .ref vb]))]) := by
  refine m_enterI (cc := cX7_nimberOf) (maxL := 2) (ret := (some .int)) (by decide +kernel) rfl (Nat.le_of_ble_eq_true rfl) ?_
  intro p e s m below meth c A ls C0 hP hD hl
  obtain ⟨hx, hb, hr, hml, hts, hown, hlocks, hK, hA⟩ := id C0
  generalize hQ : MQ below _ _ s 0 0 A = Q
  have hS : va_S A s.heap s.heap [] := va_S.rf
  have hl : lv_has ls 2 [(0, .ref mx), (1, .int x)] := hl
  refine lv_iload_n hx hb dX7_nimberOf_0 rfl (lv_at hl 1 rfl) ?_
  refine m_callSi (As := [.int x]) (rest := []) C0 hl hP hD hS (c_X7_isRegister l D cY x ) (va_cwS 1 hts gX7_nimberOf_X7_isRegister rfl rfl rfl (by decide +kernel) ⟨Nat.le_of_ble_eq_true rfl, Nat.le_of_ble_eq_true rfl⟩) dX7_nimberOf_1 [] rfl rfl rfl (Nat.le_of_ble_eq_true rfl) (Nat.zero_le _) (Nat.zero_le _) (fun _ => rfl) (fun r2 u H1 locs hw hP hD hS => ?_)
  try dsimp only at hw
  obtain rfl := hw
  have hP : va_P D vwCl [(mx, .inr (7, [.ref va, .ref vk, .ref vr, .int (nI rl), .ref vs, .int (nI ik), .int (nI th), .ref vt, .int (nI tl), .int (nI ta), .int yr, .int ys, .int yo, .int yf, .int ye, .ref vc, .ref vb]))] H1 := hP
  have hD : va_D A [(mx, .inr (7, [.ref va, .ref vk, .ref vr, .int (nI rl), .ref vs, .int (nI ik), .int (nI th), .ref vt, .int (nI tl), .int (nI ta), .int yr, .int ys, .int yo, .int yf, .int ye, .ref vc, .ref vb]))] := hD
  refine lv_topi (nm_r (congrArg nI (if_neg (hn))) ?_)
  refine lv_if_eq (tgt := 20) hx hb dX7_nimberOf_4 (by decide) (fun c4 => ?_) (fun c4 => ?_)
  · refine lv_aload_n hx hb dX7_nimberOf_20 rfl (lv_at hl 0 rfl) ?_
    refine lv_iconst (v := nI 1) hx hb dX7_nimberOf_21 (by decide) ?_
    refine m_callVi (As := [.int (nI 1)]) (rest := []) C0 hl hP hD hS (c_X7_fails l D cY mx va vk vr vs vt vc vb rl ik th tl ta yr ys yo yf ye 1 ) (cwV 1 hts gX7_nimberOf_X7_fails rfl rfl rfl (by decide +kernel) ⟨Nat.le_of_ble_eq_true rfl, Nat.le_of_ble_eq_true rfl⟩) dX7_nimberOf_22 [0] rfl rfl 0 rfl rfl rfl rfl (Nat.le_of_ble_eq_true rfl) (Nat.zero_le _) (Nat.zero_le _) (fun _ => rfl) (fun r4 u H3 locs hw hP hD hS => ?_)
    try dsimp only at hw
    obtain rfl := hw
    have hP : va_P D vwCl [(mx, .inr (7, [.ref va, .ref vk, .ref vr, .int (nI rl), .ref vs, .int (nI ik), .int (nI 1), .ref vt, .int (nI tl), .int (nI ta), .int yr, .int ys, .int yo, .int yf, .int ye, .ref vc, .ref vb]))] H3 := hP
    have hD : va_D A [(mx, .inr (7, [.ref va, .ref vk, .ref vr, .int (nI rl), .ref vs, .int (nI ik), .int (nI 1), .ref vt, .int (nI tl), .int (nI ta), .int yr, .int ys, .int yo, .int yf, .int ye, .ref vc, .ref vb]))] := hD
    subst hQ
    exact m_iret C0 hS dX7_nimberOf_25 (u := ()) hP (by first | trivial | rfl | omega)
  · exact absurd c4 (by decide)
set_option maxHeartbeats 4000000 in
set_option maxRecDepth 100000 in
theorem c_X7_nimberOf_ok (l : Launch) (D : va_G) (cY : Nat → ClassId) (mx va vk vr vs vt vc vb : Nat) (rl ik th tl ta : Nat) (yr ys yo yf ye : Int32) (f : Nat → Nat) (cnt : Nat) (k : Nat) (hk : k < 8) : m_Mi l yX7_nimberOf wsX7_nimberOf 2 45 D cY [.ref mx, .int (nI k)] [(mx, .inr (7, [.ref va, .ref vk, .ref vr, .int (nI rl), .ref vs, .int (nI ik), .int (nI th), .ref vt, .int (nI tl), .int (nI ta), .int yr, .int ys, .int yo, .int yf, .int ye, .ref vc, .ref vb])), (va, .inl (cY 0, 9, .inl (m_nf (m_all f cnt))))] (fun (res : Int32) (u : Unit) => res = nI (f k)) (fun (u : Unit) => [(mx, .inr (7, [.ref va, .ref vk, .ref vr, .int (nI rl), .ref vs, .int (nI ik), .int (nI 0), .ref vt, .int (nI tl), .int (nI ta), .int yr, .int ys, .int yo, .int yf, .int ye, .ref vc, .ref vb])), (va, .inl (cY 0, 9, .inl (m_nf (m_all f cnt))))]) := by
  refine m_enterI (cc := cX7_nimberOf) (maxL := 2) (ret := (some .int)) (by decide +kernel) rfl (Nat.le_of_ble_eq_true rfl) ?_
  intro p e s m below meth c A ls C0 hP hD hl
  obtain ⟨hx, hb, hr, hml, hts, hown, hlocks, hK, hA⟩ := id C0
  generalize hQ : MQ below _ _ s 0 0 A = Q
  have hS : va_S A s.heap s.heap [] := va_S.rf
  have hl : lv_has ls 2 [(0, .ref mx), (1, .int (nI k))] := hl
  have hwd0 := hts (.fieldLink RX7 7 "NimberFieldModel" "all" "[I") (by decide +kernel)
  have hwd1 := (show ∀ w ∈ u_ws RX7 TX7 17, w ∈ wsX7_nimberOf from by decide +kernel)
  refine lv_iload_n hx hb dX7_nimberOf_0 rfl (lv_at hl 1 rfl) ?_
  refine m_callSi (As := [.int (nI k)]) (rest := []) C0 hl hP hD hS (c_X7_isRegister l D cY (nI k) ) (va_cwS 1 hts gX7_nimberOf_X7_isRegister rfl rfl rfl (by decide +kernel) ⟨Nat.le_of_ble_eq_true rfl, Nat.le_of_ble_eq_true rfl⟩) dX7_nimberOf_1 [] rfl rfl rfl (Nat.le_of_ble_eq_true rfl) (Nat.zero_le _) (Nat.zero_le _) (fun _ => rfl) (fun r2 u H1 locs hw hP hD hS => ?_)
  try dsimp only at hw
  obtain rfl := hw
  have hP : va_P D vwCl [(mx, .inr (7, [.ref va, .ref vk, .ref vr, .int (nI rl), .ref vs, .int (nI ik), .int (nI th), .ref vt, .int (nI tl), .int (nI ta), .int yr, .int ys, .int yo, .int yf, .int ye, .ref vc, .ref vb])), (va, .inl (cY 0, 9, .inl (m_nf (m_all f cnt))))] H1 := hP
  have hD : va_D A [(mx, .inr (7, [.ref va, .ref vk, .ref vr, .int (nI rl), .ref vs, .int (nI ik), .int (nI th), .ref vt, .int (nI tl), .int (nI ta), .int yr, .int ys, .int yo, .int yf, .int ye, .ref vc, .ref vb])), (va, .inl (cY 0, 9, .inl (m_nf (m_all f cnt))))] := hD
  refine lv_topi (nm_r (congrArg nI (if_pos (m_isR_of hk))) ?_)
  refine lv_if_eq (tgt := 20) hx hb dX7_nimberOf_4 (by decide) (fun c4 => ?_) (fun c4 => ?_)
  · exact absurd c4 (by decide)
  · refine lv_aload_n hx hb dX7_nimberOf_7 rfl (lv_at hl 0 rfl) ?_
    refine lv_aload_n hx hb dX7_nimberOf_8 rfl (lv_at hl 0 rfl) ?_
    refine va_get (D := D) (ci := 7) (v := .ref va) (C := RX7) (T := TX7) (N := 17) hx hb hts hwd1 hown hK hP 0 rfl rfl 0 (by decide) hwd0 (fun _ h9 => h9) rfl dX7_nimberOf_9 ?_
    refine lv_iload_n hx hb dX7_nimberOf_12 rfl (lv_at hl 1 rfl) ?_
    refine va_iald hx hb hK hP 1 0 rfl rfl (m_in (n := k) (by first | assumption | omega) (by decide)) dX7_nimberOf_13 ?_
    refine lv_topi (nm_r (m_ldn (g := m_all f cnt) (n := k) (by omega)) ?_)
    refine lv_topi (nm_r (congrArg nI (m_all_lt f cnt hk)) ?_)
    refine m_callVi (As := [.int (nI (f k))]) (rest := []) C0 hl hP hD hS (c_X7_told l D cY mx va vk vr vs vt vc vb rl ik th tl ta yr ys yo yf ye (nI (f k)) ) (cwV 1 hts gX7_nimberOf_X7_told rfl rfl rfl (by decide +kernel) ⟨Nat.le_of_ble_eq_true rfl, Nat.le_of_ble_eq_true rfl⟩) dX7_nimberOf_14 [0] rfl rfl 0 rfl rfl rfl rfl (Nat.le_of_ble_eq_true rfl) (Nat.zero_le _) (Nat.zero_le _) (fun _ => rfl) (fun r4 u H3 locs hw hP hD hS => ?_)
    try dsimp only at hw
    obtain rfl := hw
    have hP : va_P D vwCl [(mx, .inr (7, [.ref va, .ref vk, .ref vr, .int (nI rl), .ref vs, .int (nI ik), .int (nI 0), .ref vt, .int (nI tl), .int (nI ta), .int yr, .int ys, .int yo, .int yf, .int ye, .ref vc, .ref vb])), (va, .inl (cY 0, 9, .inl (m_nf (m_all f cnt))))] H3 := hP
    have hD : va_D A [(mx, .inr (7, [.ref va, .ref vk, .ref vr, .int (nI rl), .ref vs, .int (nI ik), .int (nI 0), .ref vt, .int (nI tl), .int (nI ta), .int yr, .int ys, .int yo, .int yf, .int ye, .ref vc, .ref vb])), (va, .inl (cY 0, 9, .inl (m_nf (m_all f cnt))))] := hD
    refine lv_goto (tgt := 25) hx hb dX7_nimberOf_17 (by decide) ?_
    subst hQ
    exact m_iret C0 hS dX7_nimberOf_25 (u := ()) hP (by first | trivial | rfl | omega)
set_option maxHeartbeats 4000000 in
set_option maxRecDepth 100000 in
theorem c_X7_sumOfAll (l : Launch) (D : va_G) (cY : Nat → ClassId) (mx va vk vr vs vt vc vb : Nat) (rl ik th tl ta : Nat) (yr ys yo yf ye : Int32) (f : Nat → Nat) (cnt : Nat)  : m_Mi l yX7_sumOfAll wsX7_sumOfAll 1 22 D cY [.ref mx] [(mx, .inr (7, [.ref va, .ref vk, .ref vr, .int (nI rl), .ref vs, .int (nI ik), .int (nI th), .ref vt, .int (nI tl), .int (nI ta), .int yr, .int ys, .int yo, .int yf, .int ye, .ref vc, .ref vb])), (va, .inl (cY 0, 9, .inl (m_nf (m_all f cnt))))] (fun (res : Int32) (u : Unit) => res = nI (m_xr f 8)) (fun (u : Unit) => [(mx, .inr (7, [.ref va, .ref vk, .ref vr, .int (nI rl), .ref vs, .int (nI ik), .int (nI 0), .ref vt, .int (nI tl), .int (nI ta), .int yr, .int ys, .int yo, .int yf, .int ye, .ref vc, .ref vb])), (va, .inl (cY 0, 9, .inl (m_nf (m_all f cnt))))]) := by
  refine m_enterI (cc := cX7_sumOfAll) (maxL := 1) (ret := (some .int)) (by decide +kernel) rfl (Nat.le_of_ble_eq_true rfl) ?_
  intro p e s m below meth c A ls C0 hP hD hl
  obtain ⟨hx, hb, hr, hml, hts, hown, hlocks, hK, hA⟩ := id C0
  generalize hQ : MQ below _ _ s 0 0 A = Q
  have hS : va_S A s.heap s.heap [] := va_S.rf
  have hl : lv_has ls 1 [(0, .ref mx)] := hl
  refine lv_aload_n hx hb dX7_sumOfAll_0 rfl (lv_at hl 0 rfl) ?_
  refine lv_aload_n hx hb dX7_sumOfAll_1 rfl (lv_at hl 0 rfl) ?_
  refine m_callVi (As := []) (rest := [.ref mx]) C0 hl hP hD hS (c_X7_sum l D cY mx va vk vr vs vt vc vb rl ik th tl ta yr ys yo yf ye f cnt ) (cwV 0 hts gX7_sumOfAll_X7_sum rfl rfl rfl (by decide +kernel) ⟨Nat.le_of_ble_eq_true rfl, Nat.le_of_ble_eq_true rfl⟩) dX7_sumOfAll_2 [0, 1] rfl rfl 0 rfl rfl rfl rfl (Nat.le_of_ble_eq_true rfl) (Nat.zero_le _) (Nat.zero_le _) (fun _ => rfl) (fun r2 u H1 locs hw hP hD hS => ?_)
  try dsimp only at hw
  obtain rfl := hw
  have hP : va_P D vwCl [(mx, .inr (7, [.ref va, .ref vk, .ref vr, .int (nI rl), .ref vs, .int (nI ik), .int (nI th), .ref vt, .int (nI tl), .int (nI ta), .int yr, .int ys, .int yo, .int yf, .int ye, .ref vc, .ref vb])), (va, .inl (cY 0, 9, .inl (m_nf (m_all f cnt))))] H1 := hP
  have hD : va_D A [(mx, .inr (7, [.ref va, .ref vk, .ref vr, .int (nI rl), .ref vs, .int (nI ik), .int (nI th), .ref vt, .int (nI tl), .int (nI ta), .int yr, .int ys, .int yo, .int yf, .int ye, .ref vc, .ref vb])), (va, .inl (cY 0, 9, .inl (m_nf (m_all f cnt))))] := hD
  refine m_callVi (As := [.int (nI (m_xr f 8))]) (rest := []) C0 hl hP hD hS (c_X7_told l D cY mx va vk vr vs vt vc vb rl ik th tl ta yr ys yo yf ye (nI (m_xr f 8)) ) (cwV 1 hts gX7_sumOfAll_X7_told rfl rfl rfl (by decide +kernel) ⟨Nat.le_of_ble_eq_true rfl, Nat.le_of_ble_eq_true rfl⟩) dX7_sumOfAll_5 [0] rfl rfl 0 rfl rfl rfl rfl (Nat.le_of_ble_eq_true rfl) (Nat.zero_le _) (Nat.zero_le _) (fun _ => rfl) (fun r4 u H3 locs hw hP hD hS => ?_)
  try dsimp only at hw
  obtain rfl := hw
  have hP : va_P D vwCl [(mx, .inr (7, [.ref va, .ref vk, .ref vr, .int (nI rl), .ref vs, .int (nI ik), .int (nI 0), .ref vt, .int (nI tl), .int (nI ta), .int yr, .int ys, .int yo, .int yf, .int ye, .ref vc, .ref vb])), (va, .inl (cY 0, 9, .inl (m_nf (m_all f cnt))))] H3 := hP
  have hD : va_D A [(mx, .inr (7, [.ref va, .ref vk, .ref vr, .int (nI rl), .ref vs, .int (nI ik), .int (nI 0), .ref vt, .int (nI tl), .int (nI ta), .int yr, .int ys, .int yo, .int yf, .int ye, .ref vc, .ref vb])), (va, .inl (cY 0, 9, .inl (m_nf (m_all f cnt))))] := hD
  subst hQ
  exact m_iret C0 hS dX7_sumOfAll_8 (u := ()) hP (by first | trivial | rfl | omega)
set_option maxHeartbeats 4000000 in
set_option maxRecDepth 100000 in
theorem c_X7_registerToLessen (l : Launch) (D : va_G) (cY : Nat → ClassId) (mx va vk vr vs vt vc vb : Nat) (rl ik th tl ta : Nat) (yr ys yo yf ye : Int32) (f : Nat → Nat) (cnt : Nat) (hf8 : m_z 8 f) (hf16 : ∀ j, f j < 65536) : m_Mi l yX7_registerToLessen wsX7_registerToLessen 1 22 D cY [.ref mx] [(mx, .inr (7, [.ref va, .ref vk, .ref vr, .int (nI rl), .ref vs, .int (nI ik), .int (nI th), .ref vt, .int (nI tl), .int (nI ta), .int yr, .int ys, .int yo, .int yf, .int ye, .ref vc, .ref vb])), (va, .inl (cY 0, 9, .inl (m_nf (m_all f cnt))))] (fun (res : Int32) (u : Unit) => res = m_les f (m_xr f 8) 8 0) (fun (u : Unit) => [(mx, .inr (7, [.ref va, .ref vk, .ref vr, .int (nI rl), .ref vs, .int (nI ik), .int (nI 0), .ref vt, .int (nI tl), .int (nI ta), .int yr, .int ys, .int yo, .int yf, .int ye, .ref vc, .ref vb])), (va, .inl (cY 0, 9, .inl (m_nf (m_all f cnt))))]) := by
  refine m_enterI (cc := cX7_registerToLessen) (maxL := 3) (ret := (some .int)) (by decide +kernel) rfl (Nat.le_of_ble_eq_true rfl) ?_
  intro p e s m below meth c A ls C0 hP hD hl
  obtain ⟨hx, hb, hr, hml, hts, hown, hlocks, hK, hA⟩ := id C0
  generalize hQ : MQ below _ _ s 0 0 A = Q
  have hS : va_S A s.heap s.heap [] := va_S.rf
  have hl : lv_has ls 3 [(0, .ref mx)] := hl
  have hwd0 := hts (.fieldLink RX7 31 "NimberFieldModel" "thrown" "I") (by decide +kernel)
  have hwd1 := (show ∀ w ∈ u_ws RX7 TX7 17, w ∈ wsX7_registerToLessen from by decide +kernel)
  have hwd2 := hts (.fieldLink RX7 7 "NimberFieldModel" "all" "[I") (by decide +kernel)
  refine lv_aload_n hx hb dX7_registerToLessen_0 rfl (lv_at hl 0 rfl) ?_
  refine lv_iconst (v := nI 0) hx hb dX7_registerToLessen_1 (by decide) ?_
  refine va_put (D := D) (ci := 7) (v := .int (nI 0)) (ty := .int) (C := RX7) (T := TX7) (N := 17) hx hb hts hwd1 tyX7 tyX7_ok nmX7 hown hK hP hD hS 0 rfl rfl 6 (by decide) hwd0 (fun _ h9 => h9) rfl (by decide +kernel) rfl rfl (Nat.le_of_ble_eq_true rfl) dX7_registerToLessen_2 (fun H1 locs hP hD hS => ?_)
  have hP : va_P D vwCl [(mx, .inr (7, [.ref va, .ref vk, .ref vr, .int (nI rl), .ref vs, .int (nI ik), .int (nI 0), .ref vt, .int (nI tl), .int (nI ta), .int yr, .int ys, .int yo, .int yf, .int ye, .ref vc, .ref vb])), (va, .inl (cY 0, 9, .inl (m_nf (m_all f cnt))))] H1 := hP
  have hD : va_D A [(mx, .inr (7, [.ref va, .ref vk, .ref vr, .int (nI rl), .ref vs, .int (nI ik), .int (nI 0), .ref vt, .int (nI tl), .int (nI ta), .int yr, .int ys, .int yo, .int yf, .int ye, .ref vc, .ref vb])), (va, .inl (cY 0, 9, .inl (m_nf (m_all f cnt))))] := hD
  refine lv_aload_n hx hb dX7_registerToLessen_5 rfl (lv_at hl 0 rfl) ?_
  refine m_callVi (As := []) (rest := []) C0 hl hP hD hS (c_X7_sum l D cY mx va vk vr vs vt vc vb rl ik 0 tl ta yr ys yo yf ye f cnt ) (cwV 0 hts gX7_registerToLessen_X7_sum rfl rfl rfl (by decide +kernel) ⟨Nat.le_of_ble_eq_true rfl, Nat.le_of_ble_eq_true rfl⟩) dX7_registerToLessen_6 [0, 1] rfl rfl 0 rfl rfl rfl rfl (Nat.le_of_ble_eq_true rfl) (Nat.zero_le _) (Nat.zero_le _) (fun _ => rfl) (fun r3 u H2 locs hw hP hD hS => ?_)
  try dsimp only at hw
  obtain rfl := hw
  have hP : va_P D vwCl [(mx, .inr (7, [.ref va, .ref vk, .ref vr, .int (nI rl), .ref vs, .int (nI ik), .int (nI 0), .ref vt, .int (nI tl), .int (nI ta), .int yr, .int ys, .int yo, .int yf, .int ye, .ref vc, .ref vb])), (va, .inl (cY 0, 9, .inl (m_nf (m_all f cnt))))] H2 := hP
  have hD : va_D A [(mx, .inr (7, [.ref va, .ref vk, .ref vr, .int (nI rl), .ref vs, .int (nI ik), .int (nI 0), .ref vt, .int (nI tl), .int (nI ta), .int yr, .int ys, .int yo, .int yf, .int ye, .ref vc, .ref vb])), (va, .inl (cY 0, 9, .inl (m_nf (m_all f cnt))))] := hD
  refine lv_istore_n (lv' := [(1, .int (nI (m_xr f 8))), (0, .ref mx)]) hx hb dX7_registerToLessen_9 rfl hl (by decide) rfl (fun ls hl => ?_)
  refine lv_iconst (v := nI 0) hx hb dX7_registerToLessen_10 (by decide) ?_
  refine lv_istore_n (lv' := [(2, .int (nI 0)), (1, .int (nI (m_xr f 8))), (0, .ref mx)]) hx hb dX7_registerToLessen_11 rfl hl (by decide) rfl (fun ls hl => ?_)
  have lp12_4 : ∀ (nn : Nat) (k : Nat) (H : Heap) (locs : List Loc) (ls : Array Slot), (k ≤ 8) → (m_les f (m_xr f 8) (8 - k) k = m_les f (m_xr f 8) 8 0) → 8 - k < nn → va_P D vwCl [(mx, .inr (7, [.ref va, .ref vk, .ref vr, .int (nI rl), .ref vs, .int (nI ik), .int (nI 0), .ref vt, .int (nI tl), .int (nI ta), .int yr, .int ys, .int yo, .int yf, .int ye, .ref vc, .ref vb])), (va, .inl (cY 0, 9, .inl (m_nf (m_all f cnt))))] H → va_D A [(mx, .inr (7, [.ref va, .ref vk, .ref vr, .int (nI rl), .ref vs, .int (nI ik), .int (nI 0), .ref vt, .int (nI tl), .int (nI ta), .int yr, .int ys, .int yo, .int yf, .int ye, .ref vc, .ref vb])), (va, .inl (cY 0, 9, .inl (m_nf (m_all f cnt))))] → va_S A s.heap H locs → lv_has ls 3 [(0, .ref mx), (1, .int (nI (m_xr f 8))), (2, .int (nI k))] → W p l e { frames := 1, cells := 0, slots := 0, locals := 22 } s m ([.ref mx] : List Value).toArray below meth c H locs 0 0 Q (F0 m 12 ls []) := by
    intro nn
    induction nn with
    | zero => intros; omega
    | succ nn ih12 =>
      intro k H locs ls hk hl0 hmz hP hD hS hl
      refine lv_iload_n hx hb dX7_registerToLessen_12 rfl (lv_at hl 2 rfl) ?_
      refine lv_bipush (v := nI 8) hx hb dX7_registerToLessen_13 (by decide) ?_
      refine lv_icmp_ge (tgt := 43) hx hb dX7_registerToLessen_15 (by decide) (fun c15 => ?_) (fun c15 => ?_)
      · have c15 : 8 ≤ k := (nI_leI (a := 8) (b := k) (by first | omega | exact Nat.lt_of_le_of_lt Nat.and_le_right (by decide) | exact Nat.lt_trans (nm_lt _ _) (by decide) | exact Nat.lt_trans (np_lt _ _) (by decide) | exact Nat.lt_trans (p_at_lt htx) (by decide)) (by first | omega | exact Nat.lt_of_le_of_lt Nat.and_le_right (by decide) | exact Nat.lt_trans (nm_lt _ _) (by decide) | exact Nat.lt_trans (np_lt _ _) (by decide) | exact Nat.lt_trans (p_at_lt htx) (by decide))).mp c15
        refine lv_iconst (v := (-1)) hx hb dX7_registerToLessen_43 (by decide) ?_
        subst hQ
        exact m_iret C0 hS dX7_registerToLessen_44 (u := ()) hP (by rw [← hl0, show 8 - k = 0 by omega]; rfl)
      · have c15 : ¬ (8 ≤ k) := fun qq9 => c15 ((nI_leI (a := 8) (b := k) (by first | omega | exact Nat.lt_of_le_of_lt Nat.and_le_right (by decide) | exact Nat.lt_trans (nm_lt _ _) (by decide) | exact Nat.lt_trans (np_lt _ _) (by decide) | exact Nat.lt_trans (p_at_lt htx) (by decide)) (by first | omega | exact Nat.lt_of_le_of_lt Nat.and_le_right (by decide) | exact Nat.lt_trans (nm_lt _ _) (by decide) | exact Nat.lt_trans (np_lt _ _) (by decide) | exact Nat.lt_trans (p_at_lt htx) (by decide))).mpr qq9)
        refine lv_aload_n hx hb dX7_registerToLessen_18 rfl (lv_at hl 0 rfl) ?_
        refine va_get (D := D) (ci := 7) (v := .ref va) (C := RX7) (T := TX7) (N := 17) hx hb hts hwd1 hown hK hP 0 rfl rfl 0 (by decide) hwd2 (fun _ h9 => h9) rfl dX7_registerToLessen_19 ?_
        refine lv_iload_n hx hb dX7_registerToLessen_22 rfl (lv_at hl 2 rfl) ?_
        refine va_iald hx hb hK hP 1 0 rfl rfl (m_in (n := k) (by first | assumption | omega) (by decide)) dX7_registerToLessen_23 ?_
        refine lv_topi (nm_r (m_ldn (g := m_all f cnt) (n := k) (by omega)) ?_)
        refine lv_topi (nm_r (congrArg nI (m_all_lt f cnt (by omega))) ?_)
        have hx1 : f k ^^^ m_xr f 8 < 65536 := n_x16 (hf16 k) (m_xr_lt hf16 8)
        have hx2 := hf16 k
        refine lv_iload_n hx hb dX7_registerToLessen_24 rfl (lv_at hl 1 rfl) ?_
        refine lv_ixor hx hb dX7_registerToLessen_25 ?_
        refine lv_topi (nm_r (nx_xor _ _) ?_)
        refine lv_aload_n hx hb dX7_registerToLessen_26 rfl (lv_at hl 0 rfl) ?_
        refine va_get (D := D) (ci := 7) (v := .ref va) (C := RX7) (T := TX7) (N := 17) hx hb hts hwd1 hown hK hP 0 rfl rfl 0 (by decide) hwd2 (fun _ h9 => h9) rfl dX7_registerToLessen_27 ?_
        refine lv_iload_n hx hb dX7_registerToLessen_30 rfl (lv_at hl 2 rfl) ?_
        refine va_iald hx hb hK hP 1 0 rfl rfl (m_in (n := k) (by first | assumption | omega) (by decide)) dX7_registerToLessen_31 ?_
        refine lv_topi (nm_r (m_ldn (g := m_all f cnt) (n := k) (by omega)) ?_)
        refine lv_topi (nm_r (congrArg nI (m_all_lt f cnt (by omega))) ?_)
        refine lv_icmp_ge (tgt := 37) hx hb dX7_registerToLessen_32 (by decide) (fun c32 => ?_) (fun c32 => ?_)
        · have c32 : (f k) ≤ ((f k) ^^^ (m_xr f 8)) := (nI_leI (a := (f k)) (b := ((f k) ^^^ (m_xr f 8))) (by first | omega | exact Nat.lt_of_le_of_lt Nat.and_le_right (by decide) | exact Nat.lt_trans (nm_lt _ _) (by decide) | exact Nat.lt_trans (np_lt _ _) (by decide) | exact Nat.lt_trans (p_at_lt htx) (by decide)) (by first | omega | exact Nat.lt_of_le_of_lt Nat.and_le_right (by decide) | exact Nat.lt_trans (nm_lt _ _) (by decide) | exact Nat.lt_trans (np_lt _ _) (by decide) | exact Nat.lt_trans (p_at_lt htx) (by decide))).mp c32
          refine lv_iinc (v := nI (k + 1)) (lv' := [(2, .int (nI (k + 1))), (0, .ref mx), (1, .int (nI (m_xr f 8)))]) hx hb dX7_registerToLessen_37 hl (k := 2) rfl (nI_add _ 1) (by decide) rfl (fun ls hl => ?_)
          refine lv_goto (tgt := 12) hx hb dX7_registerToLessen_40 (by decide) ?_
          exact ih12 (k + 1) _ _ ls (by first | assumption | omega) ((m_les_f (by omega) (by omega)).trans hl0) (by omega) hP hD hS (lv_sub hl [1, 2, 0] rfl)
        · have c32 : ¬ ((f k) ≤ ((f k) ^^^ (m_xr f 8))) := fun qq9 => c32 ((nI_leI (a := (f k)) (b := ((f k) ^^^ (m_xr f 8))) (by first | omega | exact Nat.lt_of_le_of_lt Nat.and_le_right (by decide) | exact Nat.lt_trans (nm_lt _ _) (by decide) | exact Nat.lt_trans (np_lt _ _) (by decide) | exact Nat.lt_trans (p_at_lt htx) (by decide)) (by first | omega | exact Nat.lt_of_le_of_lt Nat.and_le_right (by decide) | exact Nat.lt_trans (nm_lt _ _) (by decide) | exact Nat.lt_trans (np_lt _ _) (by decide) | exact Nat.lt_trans (p_at_lt htx) (by decide))).mpr qq9)
          refine lv_iload_n hx hb dX7_registerToLessen_35 rfl (lv_at hl 2 rfl) ?_
          subst hQ
          exact m_iret C0 hS dX7_registerToLessen_36 (u := ()) hP (by rw [← hl0, m_les_t (by omega) (by omega)])
  exact lp12_4 _ 0 _ _ ls (by first | assumption | omega) (rfl) (Nat.lt_succ_self _) hP hD hS (lv_sub hl [2, 1, 0] rfl)
set_option maxHeartbeats 4000000 in
set_option maxRecDepth 100000 in
theorem c_X7_product_f1 (l : Launch) (D : va_G) (cY : Nat → ClassId) (mx va vk vr vs vt vc vb : Nat) (rl ik th tl ta : Nat) (yr ys yo yf ye : Int32) (x y : Int32) (hn : ¬ (m_isN x ∧ m_isN y)) : m_Mi l yX7_product wsX7_product 2 45 D cY [.ref mx, .int x, .int y] [(mx, .inr (7, [.ref va, .ref vk, .ref vr, .int (nI rl), .ref vs, .int (nI ik), .int (nI th), .ref vt, .int (nI tl), .int (nI ta), .int yr, .int ys, .int yo, .int yf, .int ye, .ref vc, .ref vb]))] (fun (res : Int32) (u : Unit) => res = nI 0) (fun (u : Unit) => [(mx, .inr (7, [.ref va, .ref vk, .ref vr, .int (nI rl), .ref vs, .int (nI ik), .int (nI 1), .ref vt, .int (nI tl), .int (nI ta), .int yr, .int ys, .int yo, .int yf, .int ye, .ref vc, .ref vb]))]) := by
  refine m_enterI (cc := cX7_product) (maxL := 3) (ret := (some .int)) (by decide +kernel) rfl (Nat.le_of_ble_eq_true rfl) ?_
  intro p e s m below meth c A ls C0 hP hD hl
  obtain ⟨hx, hb, hr, hml, hts, hown, hlocks, hK, hA⟩ := id C0
  generalize hQ : MQ below _ _ s 0 0 A = Q
  have hS : va_S A s.heap s.heap [] := va_S.rf
  have hl : lv_has ls 3 [(0, .ref mx), (1, .int x), (2, .int y)] := hl
  refine lv_iload_n hx hb dX7_product_0 rfl (lv_at hl 1 rfl) ?_
  refine m_callSi (As := [.int x]) (rest := []) C0 hl hP hD hS (c_X7_isNimber l D cY x ) (va_cwS 1 hts gX7_product_X7_isNimber rfl rfl rfl (by decide +kernel) ⟨Nat.le_of_ble_eq_true rfl, Nat.le_of_ble_eq_true rfl⟩) dX7_product_1 [] rfl rfl rfl (Nat.le_of_ble_eq_true rfl) (Nat.zero_le _) (Nat.zero_le _) (fun _ => rfl) (fun r2 u H1 locs hw hP hD hS => ?_)
  try dsimp only at hw
  obtain rfl := hw
  have hP : va_P D vwCl [(mx, .inr (7, [.ref va, .ref vk, .ref vr, .int (nI rl), .ref vs, .int (nI ik), .int (nI th), .ref vt, .int (nI tl), .int (nI ta), .int yr, .int ys, .int yo, .int yf, .int ye, .ref vc, .ref vb]))] H1 := hP
  have hD : va_D A [(mx, .inr (7, [.ref va, .ref vk, .ref vr, .int (nI rl), .ref vs, .int (nI ik), .int (nI th), .ref vt, .int (nI tl), .int (nI ta), .int yr, .int ys, .int yo, .int yf, .int ye, .ref vc, .ref vb]))] := hD
  rcases Decidable.em (m_isN x) with hc | hc
  · skip
    refine lv_topi (nm_r (congrArg nI (if_pos hc)) ?_)
    refine lv_if_eq (tgt := 26) hx hb dX7_product_4 (by decide) (fun c4 => ?_) (fun c4 => ?_)
    · exact absurd c4 (by decide)
    · refine lv_iload_n hx hb dX7_product_7 rfl (lv_at hl 2 rfl) ?_
      refine m_callSi (As := [.int y]) (rest := []) C0 hl hP hD hS (c_X7_isNimber l D cY y ) (va_cwS 1 hts gX7_product_X7_isNimber rfl rfl rfl (by decide +kernel) ⟨Nat.le_of_ble_eq_true rfl, Nat.le_of_ble_eq_true rfl⟩) dX7_product_8 [] rfl rfl rfl (Nat.le_of_ble_eq_true rfl) (Nat.zero_le _) (Nat.zero_le _) (fun _ => rfl) (fun r4 u H3 locs hw hP hD hS => ?_)
      try dsimp only at hw
      obtain rfl := hw
      have hP : va_P D vwCl [(mx, .inr (7, [.ref va, .ref vk, .ref vr, .int (nI rl), .ref vs, .int (nI ik), .int (nI th), .ref vt, .int (nI tl), .int (nI ta), .int yr, .int ys, .int yo, .int yf, .int ye, .ref vc, .ref vb]))] H3 := hP
      have hD : va_D A [(mx, .inr (7, [.ref va, .ref vk, .ref vr, .int (nI rl), .ref vs, .int (nI ik), .int (nI th), .ref vt, .int (nI tl), .int (nI ta), .int yr, .int ys, .int yo, .int yf, .int ye, .ref vc, .ref vb]))] := hD
      refine lv_topi (nm_r (congrArg nI (if_neg (fun q => hn ⟨hc, q⟩))) ?_)
      refine lv_if_eq (tgt := 26) hx hb dX7_product_11 (by decide) (fun c11 => ?_) (fun c11 => ?_)
      · refine lv_aload_n hx hb dX7_product_26 rfl (lv_at hl 0 rfl) ?_
        refine lv_iconst (v := nI 1) hx hb dX7_product_27 (by decide) ?_
        refine m_callVi (As := [.int (nI 1)]) (rest := []) C0 hl hP hD hS (c_X7_fails l D cY mx va vk vr vs vt vc vb rl ik th tl ta yr ys yo yf ye 1 ) (cwV 1 hts gX7_product_X7_fails rfl rfl rfl (by decide +kernel) ⟨Nat.le_of_ble_eq_true rfl, Nat.le_of_ble_eq_true rfl⟩) dX7_product_28 [0] rfl rfl 0 rfl rfl rfl rfl (Nat.le_of_ble_eq_true rfl) (Nat.zero_le _) (Nat.zero_le _) (fun _ => rfl) (fun r6 u H5 locs hw hP hD hS => ?_)
        try dsimp only at hw
        obtain rfl := hw
        have hP : va_P D vwCl [(mx, .inr (7, [.ref va, .ref vk, .ref vr, .int (nI rl), .ref vs, .int (nI ik), .int (nI 1), .ref vt, .int (nI tl), .int (nI ta), .int yr, .int ys, .int yo, .int yf, .int ye, .ref vc, .ref vb]))] H5 := hP
        have hD : va_D A [(mx, .inr (7, [.ref va, .ref vk, .ref vr, .int (nI rl), .ref vs, .int (nI ik), .int (nI 1), .ref vt, .int (nI tl), .int (nI ta), .int yr, .int ys, .int yo, .int yf, .int ye, .ref vc, .ref vb]))] := hD
        subst hQ
        exact m_iret C0 hS dX7_product_31 (u := ()) hP (by first | trivial | rfl | omega)
      · exact absurd c11 (by decide)
  · skip
    refine lv_topi (nm_r (congrArg nI (if_neg hc)) ?_)
    refine lv_if_eq (tgt := 26) hx hb dX7_product_4 (by decide) (fun c4 => ?_) (fun c4 => ?_)
    · refine lv_aload_n hx hb dX7_product_26 rfl (lv_at hl 0 rfl) ?_
      refine lv_iconst (v := nI 1) hx hb dX7_product_27 (by decide) ?_
      refine m_callVi (As := [.int (nI 1)]) (rest := []) C0 hl hP hD hS (c_X7_fails l D cY mx va vk vr vs vt vc vb rl ik th tl ta yr ys yo yf ye 1 ) (cwV 1 hts gX7_product_X7_fails rfl rfl rfl (by decide +kernel) ⟨Nat.le_of_ble_eq_true rfl, Nat.le_of_ble_eq_true rfl⟩) dX7_product_28 [0] rfl rfl 0 rfl rfl rfl rfl (Nat.le_of_ble_eq_true rfl) (Nat.zero_le _) (Nat.zero_le _) (fun _ => rfl) (fun r8 u H7 locs hw hP hD hS => ?_)
      try dsimp only at hw
      obtain rfl := hw
      have hP : va_P D vwCl [(mx, .inr (7, [.ref va, .ref vk, .ref vr, .int (nI rl), .ref vs, .int (nI ik), .int (nI 1), .ref vt, .int (nI tl), .int (nI ta), .int yr, .int ys, .int yo, .int yf, .int ye, .ref vc, .ref vb]))] H7 := hP
      have hD : va_D A [(mx, .inr (7, [.ref va, .ref vk, .ref vr, .int (nI rl), .ref vs, .int (nI ik), .int (nI 1), .ref vt, .int (nI tl), .int (nI ta), .int yr, .int ys, .int yo, .int yf, .int ye, .ref vc, .ref vb]))] := hD
      subst hQ
      exact m_iret C0 hS dX7_product_31 (u := ()) hP (by first | trivial | rfl | omega)
    · exact absurd c4 (by decide)
set_option maxHeartbeats 4000000 in
set_option maxRecDepth 100000 in
theorem c_X7_product_ok (l : Launch) (D : va_G) (cY : Nat → ClassId) (mx va vk vr vs vt vc vb : Nat) (rl ik th tl ta : Nat) (yr ys yo yf ye : Int32) (x y : Nat) (hxx : x < 65536) (hyy : y < 65536) : m_Mi l yX7_product wsX7_product 4 96 D cY [.ref mx, .int (nI x), .int (nI y)] [(mx, .inr (7, [.ref va, .ref vk, .ref vr, .int (nI rl), .ref vs, .int (nI ik), .int (nI th), .ref vt, .int (nI tl), .int (nI ta), .int yr, .int ys, .int yo, .int yf, .int ye, .ref vc, .ref vb]))] (fun (res : Int32) (u : Unit) => res = nI (nm x y)) (fun (u : Unit) => [(mx, .inr (7, [.ref va, .ref vk, .ref vr, .int (nI rl), .ref vs, .int (nI ik), .int (nI 0), .ref vt, .int (nI tl), .int (nI ta), .int yr, .int ys, .int yo, .int yf, .int ye, .ref vc, .ref vb]))]) := by
  refine m_enterI (cc := cX7_product) (maxL := 3) (ret := (some .int)) (by decide +kernel) rfl (Nat.le_of_ble_eq_true rfl) ?_
  intro p e s m below meth c A ls C0 hP hD hl
  obtain ⟨hx, hb, hr, hml, hts, hown, hlocks, hK, hA⟩ := id C0
  generalize hQ : MQ below _ _ s 0 0 A = Q
  have hS : va_S A s.heap s.heap [] := va_S.rf
  have hl : lv_has ls 3 [(0, .ref mx), (1, .int (nI x)), (2, .int (nI y))] := hl
  refine lv_iload_n hx hb dX7_product_0 rfl (lv_at hl 1 rfl) ?_
  refine m_callSi (As := [.int (nI x)]) (rest := []) C0 hl hP hD hS (c_X7_isNimber l D cY (nI x) ) (va_cwS 1 hts gX7_product_X7_isNimber rfl rfl rfl (by decide +kernel) ⟨Nat.le_of_ble_eq_true rfl, Nat.le_of_ble_eq_true rfl⟩) dX7_product_1 [] rfl rfl rfl (Nat.le_of_ble_eq_true rfl) (Nat.zero_le _) (Nat.zero_le _) (fun _ => rfl) (fun r2 u H1 locs hw hP hD hS => ?_)
  try dsimp only at hw
  obtain rfl := hw
  have hP : va_P D vwCl [(mx, .inr (7, [.ref va, .ref vk, .ref vr, .int (nI rl), .ref vs, .int (nI ik), .int (nI th), .ref vt, .int (nI tl), .int (nI ta), .int yr, .int ys, .int yo, .int yf, .int ye, .ref vc, .ref vb]))] H1 := hP
  have hD : va_D A [(mx, .inr (7, [.ref va, .ref vk, .ref vr, .int (nI rl), .ref vs, .int (nI ik), .int (nI th), .ref vt, .int (nI tl), .int (nI ta), .int yr, .int ys, .int yo, .int yf, .int ye, .ref vc, .ref vb]))] := hD
  refine lv_topi (nm_r (congrArg nI (if_pos (m_isN_of hxx))) ?_)
  refine lv_if_eq (tgt := 26) hx hb dX7_product_4 (by decide) (fun c4 => ?_) (fun c4 => ?_)
  · exact absurd c4 (by decide)
  · refine lv_iload_n hx hb dX7_product_7 rfl (lv_at hl 2 rfl) ?_
    refine m_callSi (As := [.int (nI y)]) (rest := []) C0 hl hP hD hS (c_X7_isNimber l D cY (nI y) ) (va_cwS 1 hts gX7_product_X7_isNimber rfl rfl rfl (by decide +kernel) ⟨Nat.le_of_ble_eq_true rfl, Nat.le_of_ble_eq_true rfl⟩) dX7_product_8 [] rfl rfl rfl (Nat.le_of_ble_eq_true rfl) (Nat.zero_le _) (Nat.zero_le _) (fun _ => rfl) (fun r4 u H3 locs hw hP hD hS => ?_)
    try dsimp only at hw
    obtain rfl := hw
    have hP : va_P D vwCl [(mx, .inr (7, [.ref va, .ref vk, .ref vr, .int (nI rl), .ref vs, .int (nI ik), .int (nI th), .ref vt, .int (nI tl), .int (nI ta), .int yr, .int ys, .int yo, .int yf, .int ye, .ref vc, .ref vb]))] H3 := hP
    have hD : va_D A [(mx, .inr (7, [.ref va, .ref vk, .ref vr, .int (nI rl), .ref vs, .int (nI ik), .int (nI th), .ref vt, .int (nI tl), .int (nI ta), .int yr, .int ys, .int yo, .int yf, .int ye, .ref vc, .ref vb]))] := hD
    refine lv_topi (nm_r (congrArg nI (if_pos (m_isN_of hyy))) ?_)
    refine lv_if_eq (tgt := 26) hx hb dX7_product_11 (by decide) (fun c11 => ?_) (fun c11 => ?_)
    · exact absurd c11 (by decide)
    · refine lv_aload_n hx hb dX7_product_14 rfl (lv_at hl 0 rfl) ?_
      refine lv_iload_n hx hb dX7_product_15 rfl (lv_at hl 1 rfl) ?_
      refine lv_iload_n hx hb dX7_product_16 rfl (lv_at hl 2 rfl) ?_
      refine m_callSi (As := [.int (nI x), .int (nI y)]) (rest := [.ref mx]) C0 hl hP hD hS (c_X7_times l D cY x y (by first | assumption | omega | exact nm_lt _ _ | exact np_lt _ _ | decide) (by first | assumption | omega | exact nm_lt _ _ | exact np_lt _ _ | decide)) (va_cwS 2 hts gX7_product_X7_times rfl rfl rfl (by decide +kernel) ⟨Nat.le_of_ble_eq_true rfl, Nat.le_of_ble_eq_true rfl⟩) dX7_product_17 [] rfl rfl rfl (Nat.le_of_ble_eq_true rfl) (Nat.zero_le _) (Nat.zero_le _) (fun _ => rfl) (fun r6 u H5 locs hw hP hD hS => ?_)
      try dsimp only at hw
      obtain rfl := hw
      have hP : va_P D vwCl [(mx, .inr (7, [.ref va, .ref vk, .ref vr, .int (nI rl), .ref vs, .int (nI ik), .int (nI th), .ref vt, .int (nI tl), .int (nI ta), .int yr, .int ys, .int yo, .int yf, .int ye, .ref vc, .ref vb]))] H5 := hP
      have hD : va_D A [(mx, .inr (7, [.ref va, .ref vk, .ref vr, .int (nI rl), .ref vs, .int (nI ik), .int (nI th), .ref vt, .int (nI tl), .int (nI ta), .int yr, .int ys, .int yo, .int yf, .int ye, .ref vc, .ref vb]))] := hD
      refine m_callVi (As := [.int (nI (nm x y))]) (rest := []) C0 hl hP hD hS (c_X7_told l D cY mx va vk vr vs vt vc vb rl ik th tl ta yr ys yo yf ye (nI (nm x y)) ) (cwV 1 hts gX7_product_X7_told rfl rfl rfl (by decide +kernel) ⟨Nat.le_of_ble_eq_true rfl, Nat.le_of_ble_eq_true rfl⟩) dX7_product_20 [0] rfl rfl 0 rfl rfl rfl rfl (Nat.le_of_ble_eq_true rfl) (Nat.zero_le _) (Nat.zero_le _) (fun _ => rfl) (fun r8 u H7 locs hw hP hD hS => ?_)
      try dsimp only at hw
      obtain rfl := hw
      have hP : va_P D vwCl [(mx, .inr (7, [.ref va, .ref vk, .ref vr, .int (nI rl), .ref vs, .int (nI ik), .int (nI 0), .ref vt, .int (nI tl), .int (nI ta), .int yr, .int ys, .int yo, .int yf, .int ye, .ref vc, .ref vb]))] H7 := hP
      have hD : va_D A [(mx, .inr (7, [.ref va, .ref vk, .ref vr, .int (nI rl), .ref vs, .int (nI ik), .int (nI 0), .ref vt, .int (nI tl), .int (nI ta), .int yr, .int ys, .int yo, .int yf, .int ye, .ref vc, .ref vb]))] := hD
      refine lv_goto (tgt := 31) hx hb dX7_product_23 (by decide) ?_
      subst hQ
      exact m_iret C0 hS dX7_product_31 (u := ()) hP (by first | trivial | rfl | omega)
set_option maxHeartbeats 4000000 in
set_option maxRecDepth 100000 in
theorem c_X7_productByHalves_f1 (l : Launch) (D : va_G) (cY : Nat → ClassId) (mx va vk vr vs vt vc vb : Nat) (rl ik th tl ta : Nat) (yr ys yo yf ye : Int32) (x y : Int32) (hn : ¬ (m_isN x ∧ m_isN y)) : m_Mi l yX7_productByHalves wsX7_productByHalves 3 67 D cY [.ref mx, .int x, .int y] [(mx, .inr (7, [.ref va, .ref vk, .ref vr, .int (nI rl), .ref vs, .int (nI ik), .int (nI th), .ref vt, .int (nI tl), .int (nI ta), .int yr, .int ys, .int yo, .int yf, .int ye, .ref vc, .ref vb]))] (fun (res : Int32) (u : Unit) => res = nI 0) (fun (u : Unit) => [(mx, .inr (7, [.ref va, .ref vk, .ref vr, .int (nI rl), .ref vs, .int (nI ik), .int (nI 1), .ref vt, .int (nI tl), .int (nI ta), .int yr, .int ys, .int yo, .int yf, .int ye, .ref vc, .ref vb]))]) := by
  refine m_enterI (cc := cX7_productByHalves) (maxL := 3) (ret := (some .int)) (by decide +kernel) rfl (Nat.le_of_ble_eq_true rfl) ?_
  intro p e s m below meth c A ls C0 hP hD hl
  obtain ⟨hx, hb, hr, hml, hts, hown, hlocks, hK, hA⟩ := id C0
  generalize hQ : MQ below _ _ s 0 0 A = Q
  have hS : va_S A s.heap s.heap [] := va_S.rf
  have hl : lv_has ls 3 [(0, .ref mx), (1, .int x), (2, .int y)] := hl
  refine lv_aload_n hx hb dX7_productByHalves_0 rfl (lv_at hl 0 rfl) ?_
  refine lv_iload_n hx hb dX7_productByHalves_1 rfl (lv_at hl 1 rfl) ?_
  refine lv_iload_n hx hb dX7_productByHalves_2 rfl (lv_at hl 2 rfl) ?_
  refine m_callVi (As := [.int x, .int y]) (rest := []) C0 hl hP hD hS (c_X7_product_f1 l D cY mx va vk vr vs vt vc vb rl ik th tl ta yr ys yo yf ye x y (by first | assumption | omega | exact nm_lt _ _ | exact np_lt _ _ | decide)) (cwV 2 hts gX7_productByHalves_X7_product rfl rfl rfl (by decide +kernel) ⟨Nat.le_of_ble_eq_true rfl, Nat.le_of_ble_eq_true rfl⟩) dX7_productByHalves_3 [0] rfl rfl 0 rfl rfl rfl rfl (Nat.le_of_ble_eq_true rfl) (Nat.zero_le _) (Nat.zero_le _) (fun _ => rfl) (fun r2 u H1 locs hw hP hD hS => ?_)
  try dsimp only at hw
  obtain rfl := hw
  have hP : va_P D vwCl [(mx, .inr (7, [.ref va, .ref vk, .ref vr, .int (nI rl), .ref vs, .int (nI ik), .int (nI 1), .ref vt, .int (nI tl), .int (nI ta), .int yr, .int ys, .int yo, .int yf, .int ye, .ref vc, .ref vb]))] H1 := hP
  have hD : va_D A [(mx, .inr (7, [.ref va, .ref vk, .ref vr, .int (nI rl), .ref vs, .int (nI ik), .int (nI 1), .ref vt, .int (nI tl), .int (nI ta), .int yr, .int ys, .int yo, .int yf, .int ye, .ref vc, .ref vb]))] := hD
  subst hQ
  exact m_iret C0 hS dX7_productByHalves_6 (u := ()) hP (by first | trivial | rfl | omega)
set_option maxHeartbeats 4000000 in
set_option maxRecDepth 100000 in
theorem c_X7_productByHalves_ok (l : Launch) (D : va_G) (cY : Nat → ClassId) (mx va vk vr vs vt vc vb : Nat) (rl ik th tl ta : Nat) (yr ys yo yf ye : Int32) (x y : Nat) (hxx : x < 65536) (hyy : y < 65536) : m_Mi l yX7_productByHalves wsX7_productByHalves 5 118 D cY [.ref mx, .int (nI x), .int (nI y)] [(mx, .inr (7, [.ref va, .ref vk, .ref vr, .int (nI rl), .ref vs, .int (nI ik), .int (nI th), .ref vt, .int (nI tl), .int (nI ta), .int yr, .int ys, .int yo, .int yf, .int ye, .ref vc, .ref vb]))] (fun (res : Int32) (u : Unit) => res = nI (nm x y)) (fun (u : Unit) => [(mx, .inr (7, [.ref va, .ref vk, .ref vr, .int (nI rl), .ref vs, .int (nI ik), .int (nI 0), .ref vt, .int (nI tl), .int (nI ta), .int yr, .int ys, .int yo, .int yf, .int ye, .ref vc, .ref vb]))]) := by
  refine m_enterI (cc := cX7_productByHalves) (maxL := 3) (ret := (some .int)) (by decide +kernel) rfl (Nat.le_of_ble_eq_true rfl) ?_
  intro p e s m below meth c A ls C0 hP hD hl
  obtain ⟨hx, hb, hr, hml, hts, hown, hlocks, hK, hA⟩ := id C0
  generalize hQ : MQ below _ _ s 0 0 A = Q
  have hS : va_S A s.heap s.heap [] := va_S.rf
  have hl : lv_has ls 3 [(0, .ref mx), (1, .int (nI x)), (2, .int (nI y))] := hl
  refine lv_aload_n hx hb dX7_productByHalves_0 rfl (lv_at hl 0 rfl) ?_
  refine lv_iload_n hx hb dX7_productByHalves_1 rfl (lv_at hl 1 rfl) ?_
  refine lv_iload_n hx hb dX7_productByHalves_2 rfl (lv_at hl 2 rfl) ?_
  refine m_callVi (As := [.int (nI x), .int (nI y)]) (rest := []) C0 hl hP hD hS (c_X7_product_ok l D cY mx va vk vr vs vt vc vb rl ik th tl ta yr ys yo yf ye x y (by first | assumption | omega | exact nm_lt _ _ | exact np_lt _ _ | decide) (by first | assumption | omega | exact nm_lt _ _ | exact np_lt _ _ | decide)) (cwV 2 hts gX7_productByHalves_X7_product rfl rfl rfl (by decide +kernel) ⟨Nat.le_of_ble_eq_true rfl, Nat.le_of_ble_eq_true rfl⟩) dX7_productByHalves_3 [0] rfl rfl 0 rfl rfl rfl rfl (Nat.le_of_ble_eq_true rfl) (Nat.zero_le _) (Nat.zero_le _) (fun _ => rfl) (fun r2 u H1 locs hw hP hD hS => ?_)
  try dsimp only at hw
  obtain rfl := hw
  have hP : va_P D vwCl [(mx, .inr (7, [.ref va, .ref vk, .ref vr, .int (nI rl), .ref vs, .int (nI ik), .int (nI 0), .ref vt, .int (nI tl), .int (nI ta), .int yr, .int ys, .int yo, .int yf, .int ye, .ref vc, .ref vb]))] H1 := hP
  have hD : va_D A [(mx, .inr (7, [.ref va, .ref vk, .ref vr, .int (nI rl), .ref vs, .int (nI ik), .int (nI 0), .ref vt, .int (nI tl), .int (nI ta), .int yr, .int ys, .int yo, .int yf, .int ye, .ref vc, .ref vb]))] := hD
  subst hQ
  exact m_iret C0 hS dX7_productByHalves_6 (u := ()) hP (by first | trivial | rfl | omega)
set_option maxHeartbeats 4000000 in
set_option maxRecDepth 100000 in
theorem c_X7_productByBits_f1 (l : Launch) (D : va_G) (cY : Nat → ClassId) (mx va vk vr vs vt vc vb : Nat) (rl ik th tl ta : Nat) (yr ys yo yf ye : Int32) (x y : Int32) (hn : ¬ (m_isN x ∧ m_isN y)) : m_Mi l yX7_productByBits wsX7_productByBits 3 67 D cY [.ref mx, .int x, .int y] [(mx, .inr (7, [.ref va, .ref vk, .ref vr, .int (nI rl), .ref vs, .int (nI ik), .int (nI th), .ref vt, .int (nI tl), .int (nI ta), .int yr, .int ys, .int yo, .int yf, .int ye, .ref vc, .ref vb]))] (fun (res : Int32) (u : Unit) => res = nI 0) (fun (u : Unit) => [(mx, .inr (7, [.ref va, .ref vk, .ref vr, .int (nI rl), .ref vs, .int (nI ik), .int (nI 1), .ref vt, .int (nI tl), .int (nI ta), .int yr, .int ys, .int yo, .int yf, .int ye, .ref vc, .ref vb]))]) := by
  refine m_enterI (cc := cX7_productByBits) (maxL := 3) (ret := (some .int)) (by decide +kernel) rfl (Nat.le_of_ble_eq_true rfl) ?_
  intro p e s m below meth c A ls C0 hP hD hl
  obtain ⟨hx, hb, hr, hml, hts, hown, hlocks, hK, hA⟩ := id C0
  generalize hQ : MQ below _ _ s 0 0 A = Q
  have hS : va_S A s.heap s.heap [] := va_S.rf
  have hl : lv_has ls 3 [(0, .ref mx), (1, .int x), (2, .int y)] := hl
  refine lv_aload_n hx hb dX7_productByBits_0 rfl (lv_at hl 0 rfl) ?_
  refine lv_iload_n hx hb dX7_productByBits_1 rfl (lv_at hl 1 rfl) ?_
  refine lv_iload_n hx hb dX7_productByBits_2 rfl (lv_at hl 2 rfl) ?_
  refine m_callVi (As := [.int x, .int y]) (rest := []) C0 hl hP hD hS (c_X7_product_f1 l D cY mx va vk vr vs vt vc vb rl ik th tl ta yr ys yo yf ye x y (by first | assumption | omega | exact nm_lt _ _ | exact np_lt _ _ | decide)) (cwV 2 hts gX7_productByBits_X7_product rfl rfl rfl (by decide +kernel) ⟨Nat.le_of_ble_eq_true rfl, Nat.le_of_ble_eq_true rfl⟩) dX7_productByBits_3 [0] rfl rfl 0 rfl rfl rfl rfl (Nat.le_of_ble_eq_true rfl) (Nat.zero_le _) (Nat.zero_le _) (fun _ => rfl) (fun r2 u H1 locs hw hP hD hS => ?_)
  try dsimp only at hw
  obtain rfl := hw
  have hP : va_P D vwCl [(mx, .inr (7, [.ref va, .ref vk, .ref vr, .int (nI rl), .ref vs, .int (nI ik), .int (nI 1), .ref vt, .int (nI tl), .int (nI ta), .int yr, .int ys, .int yo, .int yf, .int ye, .ref vc, .ref vb]))] H1 := hP
  have hD : va_D A [(mx, .inr (7, [.ref va, .ref vk, .ref vr, .int (nI rl), .ref vs, .int (nI ik), .int (nI 1), .ref vt, .int (nI tl), .int (nI ta), .int yr, .int ys, .int yo, .int yf, .int ye, .ref vc, .ref vb]))] := hD
  subst hQ
  exact m_iret C0 hS dX7_productByBits_6 (u := ()) hP (by first | trivial | rfl | omega)
set_option maxHeartbeats 4000000 in
set_option maxRecDepth 100000 in
theorem c_X7_productByBits_ok (l : Launch) (D : va_G) (cY : Nat → ClassId) (mx va vk vr vs vt vc vb : Nat) (rl ik th tl ta : Nat) (yr ys yo yf ye : Int32) (x y : Nat) (hxx : x < 65536) (hyy : y < 65536) : m_Mi l yX7_productByBits wsX7_productByBits 5 118 D cY [.ref mx, .int (nI x), .int (nI y)] [(mx, .inr (7, [.ref va, .ref vk, .ref vr, .int (nI rl), .ref vs, .int (nI ik), .int (nI th), .ref vt, .int (nI tl), .int (nI ta), .int yr, .int ys, .int yo, .int yf, .int ye, .ref vc, .ref vb]))] (fun (res : Int32) (u : Unit) => res = nI (nm x y)) (fun (u : Unit) => [(mx, .inr (7, [.ref va, .ref vk, .ref vr, .int (nI rl), .ref vs, .int (nI ik), .int (nI 0), .ref vt, .int (nI tl), .int (nI ta), .int yr, .int ys, .int yo, .int yf, .int ye, .ref vc, .ref vb]))]) := by
  refine m_enterI (cc := cX7_productByBits) (maxL := 3) (ret := (some .int)) (by decide +kernel) rfl (Nat.le_of_ble_eq_true rfl) ?_
  intro p e s m below meth c A ls C0 hP hD hl
  obtain ⟨hx, hb, hr, hml, hts, hown, hlocks, hK, hA⟩ := id C0
  generalize hQ : MQ below _ _ s 0 0 A = Q
  have hS : va_S A s.heap s.heap [] := va_S.rf
  have hl : lv_has ls 3 [(0, .ref mx), (1, .int (nI x)), (2, .int (nI y))] := hl
  refine lv_aload_n hx hb dX7_productByBits_0 rfl (lv_at hl 0 rfl) ?_
  refine lv_iload_n hx hb dX7_productByBits_1 rfl (lv_at hl 1 rfl) ?_
  refine lv_iload_n hx hb dX7_productByBits_2 rfl (lv_at hl 2 rfl) ?_
  refine m_callVi (As := [.int (nI x), .int (nI y)]) (rest := []) C0 hl hP hD hS (c_X7_product_ok l D cY mx va vk vr vs vt vc vb rl ik th tl ta yr ys yo yf ye x y (by first | assumption | omega | exact nm_lt _ _ | exact np_lt _ _ | decide) (by first | assumption | omega | exact nm_lt _ _ | exact np_lt _ _ | decide)) (cwV 2 hts gX7_productByBits_X7_product rfl rfl rfl (by decide +kernel) ⟨Nat.le_of_ble_eq_true rfl, Nat.le_of_ble_eq_true rfl⟩) dX7_productByBits_3 [0] rfl rfl 0 rfl rfl rfl rfl (Nat.le_of_ble_eq_true rfl) (Nat.zero_le _) (Nat.zero_le _) (fun _ => rfl) (fun r2 u H1 locs hw hP hD hS => ?_)
  try dsimp only at hw
  obtain rfl := hw
  have hP : va_P D vwCl [(mx, .inr (7, [.ref va, .ref vk, .ref vr, .int (nI rl), .ref vs, .int (nI ik), .int (nI 0), .ref vt, .int (nI tl), .int (nI ta), .int yr, .int ys, .int yo, .int yf, .int ye, .ref vc, .ref vb]))] H1 := hP
  have hD : va_D A [(mx, .inr (7, [.ref va, .ref vk, .ref vr, .int (nI rl), .ref vs, .int (nI ik), .int (nI 0), .ref vt, .int (nI tl), .int (nI ta), .int yr, .int ys, .int yo, .int yf, .int ye, .ref vc, .ref vb]))] := hD
  subst hQ
  exact m_iret C0 hS dX7_productByBits_6 (u := ()) hP (by first | trivial | rfl | omega)
set_option maxHeartbeats 4000000 in
set_option maxRecDepth 100000 in
theorem c_X7_productByTable_f1 (l : Launch) (D : va_G) (cY : Nat → ClassId) (mx va vk vr vs vt vc vb : Nat) (rl ik th tl ta : Nat) (yr ys yo yf ye : Int32) (x y : Int32) (hn : ¬ (m_inI x 0 15 ∧ m_inI y 0 15)) : m_Mi l yX7_productByTable wsX7_productByTable 1 25 D cY [.ref mx, .int x, .int y] [(mx, .inr (7, [.ref va, .ref vk, .ref vr, .int (nI rl), .ref vs, .int (nI ik), .int (nI th), .ref vt, .int (nI tl), .int (nI ta), .int yr, .int ys, .int yo, .int yf, .int ye, .ref vc, .ref vb]))] (fun (res : Int32) (u : Unit) => res = nI 0) (fun (u : Unit) => [(mx, .inr (7, [.ref va, .ref vk, .ref vr, .int (nI rl), .ref vs, .int (nI ik), .int (nI 1), .ref vt, .int (nI tl), .int (nI ta), .int yr, .int ys, .int yo, .int yf, .int ye, .ref vc, .ref vb]))]) := by
  refine m_enterI (cc := cX7_productByTable) (maxL := 3) (ret := (some .int)) (by decide +kernel) rfl (Nat.le_of_ble_eq_true rfl) ?_
  intro p e s m below meth c A ls C0 hP hD hl
  obtain ⟨hx, hb, hr, hml, hts, hown, hlocks, hK, hA⟩ := id C0
  generalize hQ : MQ below _ _ s 0 0 A = Q
  have hS : va_S A s.heap s.heap [] := va_S.rf
  have hl : lv_has ls 3 [(0, .ref mx), (1, .int x), (2, .int y)] := hl
  have hwd0 := hts (.constantLong RX7 151 (15)) (by decide +kernel)
  refine lv_iload_n hx hb dX7_productByTable_0 rfl (lv_at hl 1 rfl) ?_
  refine lv_i2l (v := Int32.toInt64 x) hx hb dX7_productByTable_1 rfl ?_
  refine lv_lconst (v := 0) hx hb dX7_productByTable_2 (by decide) ?_
  refine lv_topl (nm_r (show ((0 : Int64)) = Int32.toInt64 (0 : Int32) from by decide) ?_)
  refine lv_ldc2 hx hb hown hwd0 dX7_productByTable_3 ?_
  refine lv_topl (nm_r (show ((15 : Int64)) = Int32.toInt64 (15 : Int32) from by decide) ?_)
  refine m_callSi (As := [.long (Int32.toInt64 x), .long (Int32.toInt64 (0 : Int32)), .long (Int32.toInt64 (15 : Int32))]) (rest := []) C0 hl hP hD hS (c_X7_in l D cY x (0 : Int32) (15 : Int32) ) (va_cwS 3 hts gX7_productByTable_X7_in rfl rfl rfl (by decide +kernel) ⟨Nat.le_of_ble_eq_true rfl, Nat.le_of_ble_eq_true rfl⟩) dX7_productByTable_6 [] rfl rfl rfl (Nat.le_of_ble_eq_true rfl) (Nat.zero_le _) (Nat.zero_le _) (fun _ => rfl) (fun r2 u H1 locs hw hP hD hS => ?_)
  try dsimp only at hw
  obtain rfl := hw
  have hP : va_P D vwCl [(mx, .inr (7, [.ref va, .ref vk, .ref vr, .int (nI rl), .ref vs, .int (nI ik), .int (nI th), .ref vt, .int (nI tl), .int (nI ta), .int yr, .int ys, .int yo, .int yf, .int ye, .ref vc, .ref vb]))] H1 := hP
  have hD : va_D A [(mx, .inr (7, [.ref va, .ref vk, .ref vr, .int (nI rl), .ref vs, .int (nI ik), .int (nI th), .ref vt, .int (nI tl), .int (nI ta), .int yr, .int ys, .int yo, .int yf, .int ye, .ref vc, .ref vb]))] := hD
  rcases Decidable.em (m_inI x 0 15) with hc | hc
  · skip
    refine lv_topi (nm_r (congrArg nI (if_pos hc)) ?_)
    refine lv_if_eq (tgt := 33) hx hb dX7_productByTable_9 (by decide) (fun c9 => ?_) (fun c9 => ?_)
    · exact absurd c9 (by decide)
    · refine lv_iload_n hx hb dX7_productByTable_12 rfl (lv_at hl 2 rfl) ?_
      refine lv_i2l (v := Int32.toInt64 y) hx hb dX7_productByTable_13 rfl ?_
      refine lv_lconst (v := 0) hx hb dX7_productByTable_14 (by decide) ?_
      refine lv_topl (nm_r (show ((0 : Int64)) = Int32.toInt64 (0 : Int32) from by decide) ?_)
      refine lv_ldc2 hx hb hown hwd0 dX7_productByTable_15 ?_
      refine lv_topl (nm_r (show ((15 : Int64)) = Int32.toInt64 (15 : Int32) from by decide) ?_)
      refine m_callSi (As := [.long (Int32.toInt64 y), .long (Int32.toInt64 (0 : Int32)), .long (Int32.toInt64 (15 : Int32))]) (rest := []) C0 hl hP hD hS (c_X7_in l D cY y (0 : Int32) (15 : Int32) ) (va_cwS 3 hts gX7_productByTable_X7_in rfl rfl rfl (by decide +kernel) ⟨Nat.le_of_ble_eq_true rfl, Nat.le_of_ble_eq_true rfl⟩) dX7_productByTable_18 [] rfl rfl rfl (Nat.le_of_ble_eq_true rfl) (Nat.zero_le _) (Nat.zero_le _) (fun _ => rfl) (fun r4 u H3 locs hw hP hD hS => ?_)
      try dsimp only at hw
      obtain rfl := hw
      have hP : va_P D vwCl [(mx, .inr (7, [.ref va, .ref vk, .ref vr, .int (nI rl), .ref vs, .int (nI ik), .int (nI th), .ref vt, .int (nI tl), .int (nI ta), .int yr, .int ys, .int yo, .int yf, .int ye, .ref vc, .ref vb]))] H3 := hP
      have hD : va_D A [(mx, .inr (7, [.ref va, .ref vk, .ref vr, .int (nI rl), .ref vs, .int (nI ik), .int (nI th), .ref vt, .int (nI tl), .int (nI ta), .int yr, .int ys, .int yo, .int yf, .int ye, .ref vc, .ref vb]))] := hD
      refine lv_topi (nm_r (congrArg nI (if_neg (fun q => hn ⟨hc, q⟩))) ?_)
      refine lv_if_eq (tgt := 33) hx hb dX7_productByTable_21 (by decide) (fun c21 => ?_) (fun c21 => ?_)
      · refine lv_aload_n hx hb dX7_productByTable_33 rfl (lv_at hl 0 rfl) ?_
        refine lv_iconst (v := nI 1) hx hb dX7_productByTable_34 (by decide) ?_
        refine m_callVi (As := [.int (nI 1)]) (rest := []) C0 hl hP hD hS (c_X7_fails l D cY mx va vk vr vs vt vc vb rl ik th tl ta yr ys yo yf ye 1 ) (cwV 1 hts gX7_productByTable_X7_fails rfl rfl rfl (by decide +kernel) ⟨Nat.le_of_ble_eq_true rfl, Nat.le_of_ble_eq_true rfl⟩) dX7_productByTable_35 [0] rfl rfl 0 rfl rfl rfl rfl (Nat.le_of_ble_eq_true rfl) (Nat.zero_le _) (Nat.zero_le _) (fun _ => rfl) (fun r6 u H5 locs hw hP hD hS => ?_)
        try dsimp only at hw
        obtain rfl := hw
        have hP : va_P D vwCl [(mx, .inr (7, [.ref va, .ref vk, .ref vr, .int (nI rl), .ref vs, .int (nI ik), .int (nI 1), .ref vt, .int (nI tl), .int (nI ta), .int yr, .int ys, .int yo, .int yf, .int ye, .ref vc, .ref vb]))] H5 := hP
        have hD : va_D A [(mx, .inr (7, [.ref va, .ref vk, .ref vr, .int (nI rl), .ref vs, .int (nI ik), .int (nI 1), .ref vt, .int (nI tl), .int (nI ta), .int yr, .int ys, .int yo, .int yf, .int ye, .ref vc, .ref vb]))] := hD
        subst hQ
        exact m_iret C0 hS dX7_productByTable_38 (u := ()) hP (by first | trivial | rfl | omega)
      · exact absurd c21 (by decide)
  · skip
    refine lv_topi (nm_r (congrArg nI (if_neg hc)) ?_)
    refine lv_if_eq (tgt := 33) hx hb dX7_productByTable_9 (by decide) (fun c9 => ?_) (fun c9 => ?_)
    · refine lv_aload_n hx hb dX7_productByTable_33 rfl (lv_at hl 0 rfl) ?_
      refine lv_iconst (v := nI 1) hx hb dX7_productByTable_34 (by decide) ?_
      refine m_callVi (As := [.int (nI 1)]) (rest := []) C0 hl hP hD hS (c_X7_fails l D cY mx va vk vr vs vt vc vb rl ik th tl ta yr ys yo yf ye 1 ) (cwV 1 hts gX7_productByTable_X7_fails rfl rfl rfl (by decide +kernel) ⟨Nat.le_of_ble_eq_true rfl, Nat.le_of_ble_eq_true rfl⟩) dX7_productByTable_35 [0] rfl rfl 0 rfl rfl rfl rfl (Nat.le_of_ble_eq_true rfl) (Nat.zero_le _) (Nat.zero_le _) (fun _ => rfl) (fun r8 u H7 locs hw hP hD hS => ?_)
      try dsimp only at hw
      obtain rfl := hw
      have hP : va_P D vwCl [(mx, .inr (7, [.ref va, .ref vk, .ref vr, .int (nI rl), .ref vs, .int (nI ik), .int (nI 1), .ref vt, .int (nI tl), .int (nI ta), .int yr, .int ys, .int yo, .int yf, .int ye, .ref vc, .ref vb]))] H7 := hP
      have hD : va_D A [(mx, .inr (7, [.ref va, .ref vk, .ref vr, .int (nI rl), .ref vs, .int (nI ik), .int (nI 1), .ref vt, .int (nI tl), .int (nI ta), .int yr, .int ys, .int yo, .int yf, .int ye, .ref vc, .ref vb]))] := hD
      subst hQ
      exact m_iret C0 hS dX7_productByTable_38 (u := ()) hP (by first | trivial | rfl | omega)
    · exact absurd c9 (by decide)
set_option maxHeartbeats 4000000 in
set_option maxRecDepth 100000 in
theorem c_X7_productByTable_ok (l : Launch) (D : va_G) (cY : Nat → ClassId) (mx va vk vr vs vt vc vb : Nat) (rl ik th tl ta : Nat) (yr ys yo yf ye : Int32) (x y : Nat) (hxx : x < 16) (hyy : y < 16) : m_Mi l yX7_productByTable wsX7_productByTable 5 118 D cY [.ref mx, .int (nI x), .int (nI y)] [(mx, .inr (7, [.ref va, .ref vk, .ref vr, .int (nI rl), .ref vs, .int (nI ik), .int (nI th), .ref vt, .int (nI tl), .int (nI ta), .int yr, .int ys, .int yo, .int yf, .int ye, .ref vc, .ref vb]))] (fun (res : Int32) (u : Unit) => res = nI (nm x y)) (fun (u : Unit) => [(mx, .inr (7, [.ref va, .ref vk, .ref vr, .int (nI rl), .ref vs, .int (nI ik), .int (nI 0), .ref vt, .int (nI tl), .int (nI ta), .int yr, .int ys, .int yo, .int yf, .int ye, .ref vc, .ref vb]))]) := by
  refine m_enterI (cc := cX7_productByTable) (maxL := 3) (ret := (some .int)) (by decide +kernel) rfl (Nat.le_of_ble_eq_true rfl) ?_
  intro p e s m below meth c A ls C0 hP hD hl
  obtain ⟨hx, hb, hr, hml, hts, hown, hlocks, hK, hA⟩ := id C0
  generalize hQ : MQ below _ _ s 0 0 A = Q
  have hS : va_S A s.heap s.heap [] := va_S.rf
  have hl : lv_has ls 3 [(0, .ref mx), (1, .int (nI x)), (2, .int (nI y))] := hl
  have hwd0 := hts (.constantLong RX7 151 (15)) (by decide +kernel)
  refine lv_iload_n hx hb dX7_productByTable_0 rfl (lv_at hl 1 rfl) ?_
  refine lv_i2l (v := Int32.toInt64 (nI x)) hx hb dX7_productByTable_1 rfl ?_
  refine lv_lconst (v := 0) hx hb dX7_productByTable_2 (by decide) ?_
  refine lv_topl (nm_r (show ((0 : Int64)) = Int32.toInt64 (0 : Int32) from by decide) ?_)
  refine lv_ldc2 hx hb hown hwd0 dX7_productByTable_3 ?_
  refine lv_topl (nm_r (show ((15 : Int64)) = Int32.toInt64 (15 : Int32) from by decide) ?_)
  refine m_callSi (As := [.long (Int32.toInt64 (nI x)), .long (Int32.toInt64 (0 : Int32)), .long (Int32.toInt64 (15 : Int32))]) (rest := []) C0 hl hP hD hS (c_X7_in l D cY (nI x) (0 : Int32) (15 : Int32) ) (va_cwS 3 hts gX7_productByTable_X7_in rfl rfl rfl (by decide +kernel) ⟨Nat.le_of_ble_eq_true rfl, Nat.le_of_ble_eq_true rfl⟩) dX7_productByTable_6 [] rfl rfl rfl (Nat.le_of_ble_eq_true rfl) (Nat.zero_le _) (Nat.zero_le _) (fun _ => rfl) (fun r2 u H1 locs hw hP hD hS => ?_)
  try dsimp only at hw
  obtain rfl := hw
  have hP : va_P D vwCl [(mx, .inr (7, [.ref va, .ref vk, .ref vr, .int (nI rl), .ref vs, .int (nI ik), .int (nI th), .ref vt, .int (nI tl), .int (nI ta), .int yr, .int ys, .int yo, .int yf, .int ye, .ref vc, .ref vb]))] H1 := hP
  have hD : va_D A [(mx, .inr (7, [.ref va, .ref vk, .ref vr, .int (nI rl), .ref vs, .int (nI ik), .int (nI th), .ref vt, .int (nI tl), .int (nI ta), .int yr, .int ys, .int yo, .int yf, .int ye, .ref vc, .ref vb]))] := hD
  refine lv_topi (nm_r (congrArg nI (if_pos (⟨(nI_leI (a := 0) (b := x) (by decide) (by omega)).mpr (by omega), (nI_leI (a := x) (b := 15) (by omega) (by decide)).mpr (by omega)⟩))) ?_)
  refine lv_if_eq (tgt := 33) hx hb dX7_productByTable_9 (by decide) (fun c9 => ?_) (fun c9 => ?_)
  · exact absurd c9 (by decide)
  · refine lv_iload_n hx hb dX7_productByTable_12 rfl (lv_at hl 2 rfl) ?_
    refine lv_i2l (v := Int32.toInt64 (nI y)) hx hb dX7_productByTable_13 rfl ?_
    refine lv_lconst (v := 0) hx hb dX7_productByTable_14 (by decide) ?_
    refine lv_topl (nm_r (show ((0 : Int64)) = Int32.toInt64 (0 : Int32) from by decide) ?_)
    refine lv_ldc2 hx hb hown hwd0 dX7_productByTable_15 ?_
    refine lv_topl (nm_r (show ((15 : Int64)) = Int32.toInt64 (15 : Int32) from by decide) ?_)
    refine m_callSi (As := [.long (Int32.toInt64 (nI y)), .long (Int32.toInt64 (0 : Int32)), .long (Int32.toInt64 (15 : Int32))]) (rest := []) C0 hl hP hD hS (c_X7_in l D cY (nI y) (0 : Int32) (15 : Int32) ) (va_cwS 3 hts gX7_productByTable_X7_in rfl rfl rfl (by decide +kernel) ⟨Nat.le_of_ble_eq_true rfl, Nat.le_of_ble_eq_true rfl⟩) dX7_productByTable_18 [] rfl rfl rfl (Nat.le_of_ble_eq_true rfl) (Nat.zero_le _) (Nat.zero_le _) (fun _ => rfl) (fun r4 u H3 locs hw hP hD hS => ?_)
    try dsimp only at hw
    obtain rfl := hw
    have hP : va_P D vwCl [(mx, .inr (7, [.ref va, .ref vk, .ref vr, .int (nI rl), .ref vs, .int (nI ik), .int (nI th), .ref vt, .int (nI tl), .int (nI ta), .int yr, .int ys, .int yo, .int yf, .int ye, .ref vc, .ref vb]))] H3 := hP
    have hD : va_D A [(mx, .inr (7, [.ref va, .ref vk, .ref vr, .int (nI rl), .ref vs, .int (nI ik), .int (nI th), .ref vt, .int (nI tl), .int (nI ta), .int yr, .int ys, .int yo, .int yf, .int ye, .ref vc, .ref vb]))] := hD
    refine lv_topi (nm_r (congrArg nI (if_pos (⟨(nI_leI (a := 0) (b := y) (by decide) (by omega)).mpr (by omega), (nI_leI (a := y) (b := 15) (by omega) (by decide)).mpr (by omega)⟩))) ?_)
    refine lv_if_eq (tgt := 33) hx hb dX7_productByTable_21 (by decide) (fun c21 => ?_) (fun c21 => ?_)
    · exact absurd c21 (by decide)
    · refine lv_aload_n hx hb dX7_productByTable_24 rfl (lv_at hl 0 rfl) ?_
      refine lv_iload_n hx hb dX7_productByTable_25 rfl (lv_at hl 1 rfl) ?_
      refine lv_iload_n hx hb dX7_productByTable_26 rfl (lv_at hl 2 rfl) ?_
      refine m_callVi (As := [.int (nI x), .int (nI y)]) (rest := []) C0 hl hP hD hS (c_X7_product_ok l D cY mx va vk vr vs vt vc vb rl ik th tl ta yr ys yo yf ye x y (by first | assumption | omega | exact nm_lt _ _ | exact np_lt _ _ | decide) (by first | assumption | omega | exact nm_lt _ _ | exact np_lt _ _ | decide)) (cwV 2 hts gX7_productByTable_X7_product rfl rfl rfl (by decide +kernel) ⟨Nat.le_of_ble_eq_true rfl, Nat.le_of_ble_eq_true rfl⟩) dX7_productByTable_27 [0] rfl rfl 0 rfl rfl rfl rfl (Nat.le_of_ble_eq_true rfl) (Nat.zero_le _) (Nat.zero_le _) (fun _ => rfl) (fun r6 u H5 locs hw hP hD hS => ?_)
      try dsimp only at hw
      obtain rfl := hw
      have hP : va_P D vwCl [(mx, .inr (7, [.ref va, .ref vk, .ref vr, .int (nI rl), .ref vs, .int (nI ik), .int (nI 0), .ref vt, .int (nI tl), .int (nI ta), .int yr, .int ys, .int yo, .int yf, .int ye, .ref vc, .ref vb]))] H5 := hP
      have hD : va_D A [(mx, .inr (7, [.ref va, .ref vk, .ref vr, .int (nI rl), .ref vs, .int (nI ik), .int (nI 0), .ref vt, .int (nI tl), .int (nI ta), .int yr, .int ys, .int yo, .int yf, .int ye, .ref vc, .ref vb]))] := hD
      refine lv_goto (tgt := 38) hx hb dX7_productByTable_30 (by decide) ?_
      subst hQ
      exact m_iret C0 hS dX7_productByTable_38 (u := ()) hP (by first | trivial | rfl | omega)
set_option maxHeartbeats 4000000 in
set_option maxRecDepth 100000 in
theorem c_X7_quotient_f1 (l : Launch) (D : va_G) (cY : Nat → ClassId) (mx va vk vr vs vt vc vb : Nat) (rl ik th tl ta : Nat) (yr ys yo yf ye : Int32) (x y : Int32) (hn : ¬ (m_isN x ∧ m_isN y)) : m_Mi l yX7_quotient wsX7_quotient 2 45 D cY [.ref mx, .int x, .int y] [(mx, .inr (7, [.ref va, .ref vk, .ref vr, .int (nI rl), .ref vs, .int (nI ik), .int (nI th), .ref vt, .int (nI tl), .int (nI ta), .int yr, .int ys, .int yo, .int yf, .int ye, .ref vc, .ref vb]))] (fun (res : Int32) (u : Unit) => res = nI 0) (fun (u : Unit) => [(mx, .inr (7, [.ref va, .ref vk, .ref vr, .int (nI rl), .ref vs, .int (nI ik), .int (nI 1), .ref vt, .int (nI tl), .int (nI ta), .int yr, .int ys, .int yo, .int yf, .int ye, .ref vc, .ref vb]))]) := by
  refine m_enterI (cc := cX7_quotient) (maxL := 3) (ret := (some .int)) (by decide +kernel) rfl (Nat.le_of_ble_eq_true rfl) ?_
  intro p e s m below meth c A ls C0 hP hD hl
  obtain ⟨hx, hb, hr, hml, hts, hown, hlocks, hK, hA⟩ := id C0
  generalize hQ : MQ below _ _ s 0 0 A = Q
  have hS : va_S A s.heap s.heap [] := va_S.rf
  have hl : lv_has ls 3 [(0, .ref mx), (1, .int x), (2, .int y)] := hl
  refine lv_iload_n hx hb dX7_quotient_0 rfl (lv_at hl 1 rfl) ?_
  refine m_callSi (As := [.int x]) (rest := []) C0 hl hP hD hS (c_X7_isNimber l D cY x ) (va_cwS 1 hts gX7_quotient_X7_isNimber rfl rfl rfl (by decide +kernel) ⟨Nat.le_of_ble_eq_true rfl, Nat.le_of_ble_eq_true rfl⟩) dX7_quotient_1 [] rfl rfl rfl (Nat.le_of_ble_eq_true rfl) (Nat.zero_le _) (Nat.zero_le _) (fun _ => rfl) (fun r2 u H1 locs hw hP hD hS => ?_)
  try dsimp only at hw
  obtain rfl := hw
  have hP : va_P D vwCl [(mx, .inr (7, [.ref va, .ref vk, .ref vr, .int (nI rl), .ref vs, .int (nI ik), .int (nI th), .ref vt, .int (nI tl), .int (nI ta), .int yr, .int ys, .int yo, .int yf, .int ye, .ref vc, .ref vb]))] H1 := hP
  have hD : va_D A [(mx, .inr (7, [.ref va, .ref vk, .ref vr, .int (nI rl), .ref vs, .int (nI ik), .int (nI th), .ref vt, .int (nI tl), .int (nI ta), .int yr, .int ys, .int yo, .int yf, .int ye, .ref vc, .ref vb]))] := hD
  rcases Decidable.em (m_isN x) with hc | hc
  · skip
    refine lv_topi (nm_r (congrArg nI (if_pos hc)) ?_)
    refine lv_if_eq (tgt := 14) hx hb dX7_quotient_4 (by decide) (fun c4 => ?_) (fun c4 => ?_)
    · exact absurd c4 (by decide)
    · refine lv_iload_n hx hb dX7_quotient_7 rfl (lv_at hl 2 rfl) ?_
      refine m_callSi (As := [.int y]) (rest := []) C0 hl hP hD hS (c_X7_isNimber l D cY y ) (va_cwS 1 hts gX7_quotient_X7_isNimber rfl rfl rfl (by decide +kernel) ⟨Nat.le_of_ble_eq_true rfl, Nat.le_of_ble_eq_true rfl⟩) dX7_quotient_8 [] rfl rfl rfl (Nat.le_of_ble_eq_true rfl) (Nat.zero_le _) (Nat.zero_le _) (fun _ => rfl) (fun r4 u H3 locs hw hP hD hS => ?_)
      try dsimp only at hw
      obtain rfl := hw
      have hP : va_P D vwCl [(mx, .inr (7, [.ref va, .ref vk, .ref vr, .int (nI rl), .ref vs, .int (nI ik), .int (nI th), .ref vt, .int (nI tl), .int (nI ta), .int yr, .int ys, .int yo, .int yf, .int ye, .ref vc, .ref vb]))] H3 := hP
      have hD : va_D A [(mx, .inr (7, [.ref va, .ref vk, .ref vr, .int (nI rl), .ref vs, .int (nI ik), .int (nI th), .ref vt, .int (nI tl), .int (nI ta), .int yr, .int ys, .int yo, .int yf, .int ye, .ref vc, .ref vb]))] := hD
      refine lv_topi (nm_r (congrArg nI (if_neg (fun q => hn ⟨hc, q⟩))) ?_)
      refine lv_if_ne (tgt := 20) hx hb dX7_quotient_11 (by decide) (fun c11 => ?_) (fun c11 => ?_)
      · exact absurd c11 (by decide)
      · refine lv_aload_n hx hb dX7_quotient_14 rfl (lv_at hl 0 rfl) ?_
        refine lv_iconst (v := nI 1) hx hb dX7_quotient_15 (by decide) ?_
        refine m_callVi (As := [.int (nI 1)]) (rest := []) C0 hl hP hD hS (c_X7_fails l D cY mx va vk vr vs vt vc vb rl ik th tl ta yr ys yo yf ye 1 ) (cwV 1 hts gX7_quotient_X7_fails rfl rfl rfl (by decide +kernel) ⟨Nat.le_of_ble_eq_true rfl, Nat.le_of_ble_eq_true rfl⟩) dX7_quotient_16 [0] rfl rfl 0 rfl rfl rfl rfl (Nat.le_of_ble_eq_true rfl) (Nat.zero_le _) (Nat.zero_le _) (fun _ => rfl) (fun r6 u H5 locs hw hP hD hS => ?_)
        try dsimp only at hw
        obtain rfl := hw
        have hP : va_P D vwCl [(mx, .inr (7, [.ref va, .ref vk, .ref vr, .int (nI rl), .ref vs, .int (nI ik), .int (nI 1), .ref vt, .int (nI tl), .int (nI ta), .int yr, .int ys, .int yo, .int yf, .int ye, .ref vc, .ref vb]))] H5 := hP
        have hD : va_D A [(mx, .inr (7, [.ref va, .ref vk, .ref vr, .int (nI rl), .ref vs, .int (nI ik), .int (nI 1), .ref vt, .int (nI tl), .int (nI ta), .int yr, .int ys, .int yo, .int yf, .int ye, .ref vc, .ref vb]))] := hD
        subst hQ
        exact m_iret C0 hS dX7_quotient_19 (u := ()) hP (by first | trivial | rfl | omega)
  · skip
    refine lv_topi (nm_r (congrArg nI (if_neg hc)) ?_)
    refine lv_if_eq (tgt := 14) hx hb dX7_quotient_4 (by decide) (fun c4 => ?_) (fun c4 => ?_)
    · refine lv_aload_n hx hb dX7_quotient_14 rfl (lv_at hl 0 rfl) ?_
      refine lv_iconst (v := nI 1) hx hb dX7_quotient_15 (by decide) ?_
      refine m_callVi (As := [.int (nI 1)]) (rest := []) C0 hl hP hD hS (c_X7_fails l D cY mx va vk vr vs vt vc vb rl ik th tl ta yr ys yo yf ye 1 ) (cwV 1 hts gX7_quotient_X7_fails rfl rfl rfl (by decide +kernel) ⟨Nat.le_of_ble_eq_true rfl, Nat.le_of_ble_eq_true rfl⟩) dX7_quotient_16 [0] rfl rfl 0 rfl rfl rfl rfl (Nat.le_of_ble_eq_true rfl) (Nat.zero_le _) (Nat.zero_le _) (fun _ => rfl) (fun r8 u H7 locs hw hP hD hS => ?_)
      try dsimp only at hw
      obtain rfl := hw
      have hP : va_P D vwCl [(mx, .inr (7, [.ref va, .ref vk, .ref vr, .int (nI rl), .ref vs, .int (nI ik), .int (nI 1), .ref vt, .int (nI tl), .int (nI ta), .int yr, .int ys, .int yo, .int yf, .int ye, .ref vc, .ref vb]))] H7 := hP
      have hD : va_D A [(mx, .inr (7, [.ref va, .ref vk, .ref vr, .int (nI rl), .ref vs, .int (nI ik), .int (nI 1), .ref vt, .int (nI tl), .int (nI ta), .int yr, .int ys, .int yo, .int yf, .int ye, .ref vc, .ref vb]))] := hD
      subst hQ
      exact m_iret C0 hS dX7_quotient_19 (u := ()) hP (by first | trivial | rfl | omega)
    · exact absurd c4 (by decide)
set_option maxHeartbeats 4000000 in
set_option maxRecDepth 100000 in
theorem c_X7_quotient_ok (l : Launch) (D : va_G) (cY : Nat → ClassId) (mx va vk vr vs vt vc vb : Nat) (rl ik th tl ta : Nat) (yr ys yo yf ye : Int32) (x y : Nat) (hxx : x < 65536) (hyy : y < 65536) : m_Mi l yX7_quotient wsX7_quotient 6 140 D cY [.ref mx, .int (nI x), .int (nI y)] [(mx, .inr (7, [.ref va, .ref vk, .ref vr, .int (nI rl), .ref vs, .int (nI ik), .int (nI th), .ref vt, .int (nI tl), .int (nI ta), .int yr, .int ys, .int yo, .int yf, .int ye, .ref vc, .ref vb]))] (fun (res : Int32) (u : Unit) => res = n_div x y) (fun (u : Unit) => [(mx, .inr (7, [.ref va, .ref vk, .ref vr, .int (nI rl), .ref vs, .int (nI ik), .int (nI 0), .ref vt, .int (nI tl), .int (nI ta), .int yr, .int ys, .int yo, .int yf, .int ye, .ref vc, .ref vb]))]) := by
  refine m_enterI (cc := cX7_quotient) (maxL := 3) (ret := (some .int)) (by decide +kernel) rfl (Nat.le_of_ble_eq_true rfl) ?_
  intro p e s m below meth c A ls C0 hP hD hl
  obtain ⟨hx, hb, hr, hml, hts, hown, hlocks, hK, hA⟩ := id C0
  generalize hQ : MQ below _ _ s 0 0 A = Q
  have hS : va_S A s.heap s.heap [] := va_S.rf
  have hl : lv_has ls 3 [(0, .ref mx), (1, .int (nI x)), (2, .int (nI y))] := hl
  refine lv_iload_n hx hb dX7_quotient_0 rfl (lv_at hl 1 rfl) ?_
  refine m_callSi (As := [.int (nI x)]) (rest := []) C0 hl hP hD hS (c_X7_isNimber l D cY (nI x) ) (va_cwS 1 hts gX7_quotient_X7_isNimber rfl rfl rfl (by decide +kernel) ⟨Nat.le_of_ble_eq_true rfl, Nat.le_of_ble_eq_true rfl⟩) dX7_quotient_1 [] rfl rfl rfl (Nat.le_of_ble_eq_true rfl) (Nat.zero_le _) (Nat.zero_le _) (fun _ => rfl) (fun r2 u H1 locs hw hP hD hS => ?_)
  try dsimp only at hw
  obtain rfl := hw
  have hP : va_P D vwCl [(mx, .inr (7, [.ref va, .ref vk, .ref vr, .int (nI rl), .ref vs, .int (nI ik), .int (nI th), .ref vt, .int (nI tl), .int (nI ta), .int yr, .int ys, .int yo, .int yf, .int ye, .ref vc, .ref vb]))] H1 := hP
  have hD : va_D A [(mx, .inr (7, [.ref va, .ref vk, .ref vr, .int (nI rl), .ref vs, .int (nI ik), .int (nI th), .ref vt, .int (nI tl), .int (nI ta), .int yr, .int ys, .int yo, .int yf, .int ye, .ref vc, .ref vb]))] := hD
  refine lv_topi (nm_r (congrArg nI (if_pos (m_isN_of hxx))) ?_)
  refine lv_if_eq (tgt := 14) hx hb dX7_quotient_4 (by decide) (fun c4 => ?_) (fun c4 => ?_)
  · exact absurd c4 (by decide)
  · refine lv_iload_n hx hb dX7_quotient_7 rfl (lv_at hl 2 rfl) ?_
    refine m_callSi (As := [.int (nI y)]) (rest := []) C0 hl hP hD hS (c_X7_isNimber l D cY (nI y) ) (va_cwS 1 hts gX7_quotient_X7_isNimber rfl rfl rfl (by decide +kernel) ⟨Nat.le_of_ble_eq_true rfl, Nat.le_of_ble_eq_true rfl⟩) dX7_quotient_8 [] rfl rfl rfl (Nat.le_of_ble_eq_true rfl) (Nat.zero_le _) (Nat.zero_le _) (fun _ => rfl) (fun r4 u H3 locs hw hP hD hS => ?_)
    try dsimp only at hw
    obtain rfl := hw
    have hP : va_P D vwCl [(mx, .inr (7, [.ref va, .ref vk, .ref vr, .int (nI rl), .ref vs, .int (nI ik), .int (nI th), .ref vt, .int (nI tl), .int (nI ta), .int yr, .int ys, .int yo, .int yf, .int ye, .ref vc, .ref vb]))] H3 := hP
    have hD : va_D A [(mx, .inr (7, [.ref va, .ref vk, .ref vr, .int (nI rl), .ref vs, .int (nI ik), .int (nI th), .ref vt, .int (nI tl), .int (nI ta), .int yr, .int ys, .int yo, .int yf, .int ye, .ref vc, .ref vb]))] := hD
    refine lv_topi (nm_r (congrArg nI (if_pos (m_isN_of hyy))) ?_)
    refine lv_if_ne (tgt := 20) hx hb dX7_quotient_11 (by decide) (fun c11 => ?_) (fun c11 => ?_)
    · refine lv_aload_n hx hb dX7_quotient_20 rfl (lv_at hl 0 rfl) ?_
      refine lv_iload_n hx hb dX7_quotient_21 rfl (lv_at hl 2 rfl) ?_
      refine lv_if_ne (tgt := 29) hx hb dX7_quotient_22 (by decide) (fun c22 => ?_) (fun c22 => ?_)
      · have c22 : ¬ (y = 0) := fun qq9 => c22 ((nI_eq (a := y) (b := 0) (by first | omega | exact Nat.lt_of_le_of_lt Nat.and_le_right (by decide) | exact Nat.lt_trans (nm_lt _ _) (by decide) | exact Nat.lt_trans (np_lt _ _) (by decide) | exact Nat.lt_trans (p_at_lt htx) (by decide)) (by first | omega | exact Nat.lt_of_le_of_lt Nat.and_le_right (by decide) | exact Nat.lt_trans (nm_lt _ _) (by decide) | exact Nat.lt_trans (np_lt _ _) (by decide) | exact Nat.lt_trans (p_at_lt htx) (by decide))).mpr qq9)
        refine lv_iload_n hx hb dX7_quotient_29 rfl (lv_at hl 1 rfl) ?_
        refine lv_iload_n hx hb dX7_quotient_30 rfl (lv_at hl 2 rfl) ?_
        refine m_callSi (As := [.int (nI y)]) (rest := [.int (nI x), .ref mx]) C0 hl hP hD hS (c_X7_inverted l D cY y (by first | assumption | omega | exact nm_lt _ _ | exact np_lt _ _ | decide)) (va_cwS 1 hts gX7_quotient_X7_inverted rfl rfl rfl (by decide +kernel) ⟨Nat.le_of_ble_eq_true rfl, Nat.le_of_ble_eq_true rfl⟩) dX7_quotient_31 [] rfl rfl rfl (Nat.le_of_ble_eq_true rfl) (Nat.zero_le _) (Nat.zero_le _) (fun _ => rfl) (fun r6 u H5 locs hw hP hD hS => ?_)
        try dsimp only at hw
        obtain rfl := hw
        have hP : va_P D vwCl [(mx, .inr (7, [.ref va, .ref vk, .ref vr, .int (nI rl), .ref vs, .int (nI ik), .int (nI th), .ref vt, .int (nI tl), .int (nI ta), .int yr, .int ys, .int yo, .int yf, .int ye, .ref vc, .ref vb]))] H5 := hP
        have hD : va_D A [(mx, .inr (7, [.ref va, .ref vk, .ref vr, .int (nI rl), .ref vs, .int (nI ik), .int (nI th), .ref vt, .int (nI tl), .int (nI ta), .int yr, .int ys, .int yo, .int yf, .int ye, .ref vc, .ref vb]))] := hD
        refine m_callSi (As := [.int (nI x), .int (nI (np y 65534))]) (rest := [.ref mx]) C0 hl hP hD hS (c_X7_times l D cY x (np y 65534) (by first | assumption | omega | exact nm_lt _ _ | exact np_lt _ _ | decide) (by first | assumption | omega | exact nm_lt _ _ | exact np_lt _ _ | decide)) (va_cwS 2 hts gX7_quotient_X7_times rfl rfl rfl (by decide +kernel) ⟨Nat.le_of_ble_eq_true rfl, Nat.le_of_ble_eq_true rfl⟩) dX7_quotient_34 [] rfl rfl rfl (Nat.le_of_ble_eq_true rfl) (Nat.zero_le _) (Nat.zero_le _) (fun _ => rfl) (fun r8 u H7 locs hw hP hD hS => ?_)
        try dsimp only at hw
        obtain rfl := hw
        have hP : va_P D vwCl [(mx, .inr (7, [.ref va, .ref vk, .ref vr, .int (nI rl), .ref vs, .int (nI ik), .int (nI th), .ref vt, .int (nI tl), .int (nI ta), .int yr, .int ys, .int yo, .int yf, .int ye, .ref vc, .ref vb]))] H7 := hP
        have hD : va_D A [(mx, .inr (7, [.ref va, .ref vk, .ref vr, .int (nI rl), .ref vs, .int (nI ik), .int (nI th), .ref vt, .int (nI tl), .int (nI ta), .int yr, .int ys, .int yo, .int yf, .int ye, .ref vc, .ref vb]))] := hD
        refine m_callVi (As := [.int (nI (nm x (np y 65534)))]) (rest := []) C0 hl hP hD hS (c_X7_told l D cY mx va vk vr vs vt vc vb rl ik th tl ta yr ys yo yf ye (nI (nm x (np y 65534))) ) (cwV 1 hts gX7_quotient_X7_told rfl rfl rfl (by decide +kernel) ⟨Nat.le_of_ble_eq_true rfl, Nat.le_of_ble_eq_true rfl⟩) dX7_quotient_37 [0] rfl rfl 0 rfl rfl rfl rfl (Nat.le_of_ble_eq_true rfl) (Nat.zero_le _) (Nat.zero_le _) (fun _ => rfl) (fun r10 u H9 locs hw hP hD hS => ?_)
        try dsimp only at hw
        obtain rfl := hw
        have hP : va_P D vwCl [(mx, .inr (7, [.ref va, .ref vk, .ref vr, .int (nI rl), .ref vs, .int (nI ik), .int (nI 0), .ref vt, .int (nI tl), .int (nI ta), .int yr, .int ys, .int yo, .int yf, .int ye, .ref vc, .ref vb]))] H9 := hP
        have hD : va_D A [(mx, .inr (7, [.ref va, .ref vk, .ref vr, .int (nI rl), .ref vs, .int (nI ik), .int (nI 0), .ref vt, .int (nI tl), .int (nI ta), .int yr, .int ys, .int yo, .int yf, .int ye, .ref vc, .ref vb]))] := hD
        subst hQ
        exact m_iret C0 hS dX7_quotient_40 (u := ()) hP (by rw [n_div]; first | rw [if_neg (by omega)] | rw [if_pos (by omega)])
      · have c22 : y = 0 := (nI_eq (a := y) (b := 0) (by first | omega | exact Nat.lt_of_le_of_lt Nat.and_le_right (by decide) | exact Nat.lt_trans (nm_lt _ _) (by decide) | exact Nat.lt_trans (np_lt _ _) (by decide) | exact Nat.lt_trans (p_at_lt htx) (by decide)) (by first | omega | exact Nat.lt_of_le_of_lt Nat.and_le_right (by decide) | exact Nat.lt_trans (nm_lt _ _) (by decide) | exact Nat.lt_trans (np_lt _ _) (by decide) | exact Nat.lt_trans (p_at_lt htx) (by decide))).mp c22
        refine lv_iconst (v := (-1)) hx hb dX7_quotient_25 (by decide) ?_
        refine lv_goto (tgt := 37) hx hb dX7_quotient_26 (by decide) ?_
        refine m_callVi (As := [.int (-1)]) (rest := []) C0 hl hP hD hS (c_X7_told l D cY mx va vk vr vs vt vc vb rl ik th tl ta yr ys yo yf ye (-1) ) (cwV 1 hts gX7_quotient_X7_told rfl rfl rfl (by decide +kernel) ⟨Nat.le_of_ble_eq_true rfl, Nat.le_of_ble_eq_true rfl⟩) dX7_quotient_37 [0] rfl rfl 0 rfl rfl rfl rfl (Nat.le_of_ble_eq_true rfl) (Nat.zero_le _) (Nat.zero_le _) (fun _ => rfl) (fun r12 u H11 locs hw hP hD hS => ?_)
        try dsimp only at hw
        obtain rfl := hw
        have hP : va_P D vwCl [(mx, .inr (7, [.ref va, .ref vk, .ref vr, .int (nI rl), .ref vs, .int (nI ik), .int (nI 0), .ref vt, .int (nI tl), .int (nI ta), .int yr, .int ys, .int yo, .int yf, .int ye, .ref vc, .ref vb]))] H11 := hP
        have hD : va_D A [(mx, .inr (7, [.ref va, .ref vk, .ref vr, .int (nI rl), .ref vs, .int (nI ik), .int (nI 0), .ref vt, .int (nI tl), .int (nI ta), .int yr, .int ys, .int yo, .int yf, .int ye, .ref vc, .ref vb]))] := hD
        subst hQ
        exact m_iret C0 hS dX7_quotient_40 (u := ()) hP (by rw [n_div]; first | rw [if_neg (by omega)] | rw [if_pos (by omega)])
    · exact absurd c11 (by decide)
set_option maxHeartbeats 4000000 in
set_option maxRecDepth 100000 in
theorem c_X7_power_f1 (l : Launch) (D : va_G) (cY : Nat → ClassId) (mx va vk vr vs vt vc vb : Nat) (rl ik th tl ta : Nat) (yr ys yo yf ye : Int32) (x y : Int32) (hn : ¬ (m_isN x ∧ m_inI y 0 1000000000)) : m_Mi l yX7_power wsX7_power 2 45 D cY [.ref mx, .int x, .int y] [(mx, .inr (7, [.ref va, .ref vk, .ref vr, .int (nI rl), .ref vs, .int (nI ik), .int (nI th), .ref vt, .int (nI tl), .int (nI ta), .int yr, .int ys, .int yo, .int yf, .int ye, .ref vc, .ref vb]))] (fun (res : Int32) (u : Unit) => res = nI 0) (fun (u : Unit) => [(mx, .inr (7, [.ref va, .ref vk, .ref vr, .int (nI rl), .ref vs, .int (nI ik), .int (nI 1), .ref vt, .int (nI tl), .int (nI ta), .int yr, .int ys, .int yo, .int yf, .int ye, .ref vc, .ref vb]))]) := by
  refine m_enterI (cc := cX7_power) (maxL := 3) (ret := (some .int)) (by decide +kernel) rfl (Nat.le_of_ble_eq_true rfl) ?_
  intro p e s m below meth c A ls C0 hP hD hl
  obtain ⟨hx, hb, hr, hml, hts, hown, hlocks, hK, hA⟩ := id C0
  generalize hQ : MQ below _ _ s 0 0 A = Q
  have hS : va_S A s.heap s.heap [] := va_S.rf
  have hl : lv_has ls 3 [(0, .ref mx), (1, .int x), (2, .int y)] := hl
  have hwd0 := hts (.constantLong RX7 153 (1000000000)) (by decide +kernel)
  refine lv_iload_n hx hb dX7_power_0 rfl (lv_at hl 1 rfl) ?_
  refine m_callSi (As := [.int x]) (rest := []) C0 hl hP hD hS (c_X7_isNimber l D cY x ) (va_cwS 1 hts gX7_power_X7_isNimber rfl rfl rfl (by decide +kernel) ⟨Nat.le_of_ble_eq_true rfl, Nat.le_of_ble_eq_true rfl⟩) dX7_power_1 [] rfl rfl rfl (Nat.le_of_ble_eq_true rfl) (Nat.zero_le _) (Nat.zero_le _) (fun _ => rfl) (fun r2 u H1 locs hw hP hD hS => ?_)
  try dsimp only at hw
  obtain rfl := hw
  have hP : va_P D vwCl [(mx, .inr (7, [.ref va, .ref vk, .ref vr, .int (nI rl), .ref vs, .int (nI ik), .int (nI th), .ref vt, .int (nI tl), .int (nI ta), .int yr, .int ys, .int yo, .int yf, .int ye, .ref vc, .ref vb]))] H1 := hP
  have hD : va_D A [(mx, .inr (7, [.ref va, .ref vk, .ref vr, .int (nI rl), .ref vs, .int (nI ik), .int (nI th), .ref vt, .int (nI tl), .int (nI ta), .int yr, .int ys, .int yo, .int yf, .int ye, .ref vc, .ref vb]))] := hD
  rcases Decidable.em (m_isN x) with hc | hc
  · skip
    refine lv_topi (nm_r (congrArg nI (if_pos hc)) ?_)
    refine lv_if_eq (tgt := 31) hx hb dX7_power_4 (by decide) (fun c4 => ?_) (fun c4 => ?_)
    · exact absurd c4 (by decide)
    · refine lv_iload_n hx hb dX7_power_7 rfl (lv_at hl 2 rfl) ?_
      refine lv_i2l (v := Int32.toInt64 y) hx hb dX7_power_8 rfl ?_
      refine lv_lconst (v := 0) hx hb dX7_power_9 (by decide) ?_
      refine lv_topl (nm_r (show ((0 : Int64)) = Int32.toInt64 (0 : Int32) from by decide) ?_)
      refine lv_ldc2 hx hb hown hwd0 dX7_power_10 ?_
      refine lv_topl (nm_r (show ((1000000000 : Int64)) = Int32.toInt64 (1000000000 : Int32) from by decide) ?_)
      refine m_callSi (As := [.long (Int32.toInt64 y), .long (Int32.toInt64 (0 : Int32)), .long (Int32.toInt64 (1000000000 : Int32))]) (rest := []) C0 hl hP hD hS (c_X7_in l D cY y (0 : Int32) (1000000000 : Int32) ) (va_cwS 3 hts gX7_power_X7_in rfl rfl rfl (by decide +kernel) ⟨Nat.le_of_ble_eq_true rfl, Nat.le_of_ble_eq_true rfl⟩) dX7_power_13 [] rfl rfl rfl (Nat.le_of_ble_eq_true rfl) (Nat.zero_le _) (Nat.zero_le _) (fun _ => rfl) (fun r4 u H3 locs hw hP hD hS => ?_)
      try dsimp only at hw
      obtain rfl := hw
      have hP : va_P D vwCl [(mx, .inr (7, [.ref va, .ref vk, .ref vr, .int (nI rl), .ref vs, .int (nI ik), .int (nI th), .ref vt, .int (nI tl), .int (nI ta), .int yr, .int ys, .int yo, .int yf, .int ye, .ref vc, .ref vb]))] H3 := hP
      have hD : va_D A [(mx, .inr (7, [.ref va, .ref vk, .ref vr, .int (nI rl), .ref vs, .int (nI ik), .int (nI th), .ref vt, .int (nI tl), .int (nI ta), .int yr, .int ys, .int yo, .int yf, .int ye, .ref vc, .ref vb]))] := hD
      refine lv_topi (nm_r (congrArg nI (if_neg (fun q => hn ⟨hc, q⟩))) ?_)
      refine lv_if_eq (tgt := 31) hx hb dX7_power_16 (by decide) (fun c16 => ?_) (fun c16 => ?_)
      · refine lv_aload_n hx hb dX7_power_31 rfl (lv_at hl 0 rfl) ?_
        refine lv_iconst (v := nI 1) hx hb dX7_power_32 (by decide) ?_
        refine m_callVi (As := [.int (nI 1)]) (rest := []) C0 hl hP hD hS (c_X7_fails l D cY mx va vk vr vs vt vc vb rl ik th tl ta yr ys yo yf ye 1 ) (cwV 1 hts gX7_power_X7_fails rfl rfl rfl (by decide +kernel) ⟨Nat.le_of_ble_eq_true rfl, Nat.le_of_ble_eq_true rfl⟩) dX7_power_33 [0] rfl rfl 0 rfl rfl rfl rfl (Nat.le_of_ble_eq_true rfl) (Nat.zero_le _) (Nat.zero_le _) (fun _ => rfl) (fun r6 u H5 locs hw hP hD hS => ?_)
        try dsimp only at hw
        obtain rfl := hw
        have hP : va_P D vwCl [(mx, .inr (7, [.ref va, .ref vk, .ref vr, .int (nI rl), .ref vs, .int (nI ik), .int (nI 1), .ref vt, .int (nI tl), .int (nI ta), .int yr, .int ys, .int yo, .int yf, .int ye, .ref vc, .ref vb]))] H5 := hP
        have hD : va_D A [(mx, .inr (7, [.ref va, .ref vk, .ref vr, .int (nI rl), .ref vs, .int (nI ik), .int (nI 1), .ref vt, .int (nI tl), .int (nI ta), .int yr, .int ys, .int yo, .int yf, .int ye, .ref vc, .ref vb]))] := hD
        subst hQ
        exact m_iret C0 hS dX7_power_36 (u := ()) hP (by first | trivial | rfl | omega)
      · exact absurd c16 (by decide)
  · skip
    refine lv_topi (nm_r (congrArg nI (if_neg hc)) ?_)
    refine lv_if_eq (tgt := 31) hx hb dX7_power_4 (by decide) (fun c4 => ?_) (fun c4 => ?_)
    · refine lv_aload_n hx hb dX7_power_31 rfl (lv_at hl 0 rfl) ?_
      refine lv_iconst (v := nI 1) hx hb dX7_power_32 (by decide) ?_
      refine m_callVi (As := [.int (nI 1)]) (rest := []) C0 hl hP hD hS (c_X7_fails l D cY mx va vk vr vs vt vc vb rl ik th tl ta yr ys yo yf ye 1 ) (cwV 1 hts gX7_power_X7_fails rfl rfl rfl (by decide +kernel) ⟨Nat.le_of_ble_eq_true rfl, Nat.le_of_ble_eq_true rfl⟩) dX7_power_33 [0] rfl rfl 0 rfl rfl rfl rfl (Nat.le_of_ble_eq_true rfl) (Nat.zero_le _) (Nat.zero_le _) (fun _ => rfl) (fun r8 u H7 locs hw hP hD hS => ?_)
      try dsimp only at hw
      obtain rfl := hw
      have hP : va_P D vwCl [(mx, .inr (7, [.ref va, .ref vk, .ref vr, .int (nI rl), .ref vs, .int (nI ik), .int (nI 1), .ref vt, .int (nI tl), .int (nI ta), .int yr, .int ys, .int yo, .int yf, .int ye, .ref vc, .ref vb]))] H7 := hP
      have hD : va_D A [(mx, .inr (7, [.ref va, .ref vk, .ref vr, .int (nI rl), .ref vs, .int (nI ik), .int (nI 1), .ref vt, .int (nI tl), .int (nI ta), .int yr, .int ys, .int yo, .int yf, .int ye, .ref vc, .ref vb]))] := hD
      subst hQ
      exact m_iret C0 hS dX7_power_36 (u := ()) hP (by first | trivial | rfl | omega)
    · exact absurd c4 (by decide)
set_option maxHeartbeats 4000000 in
set_option maxRecDepth 100000 in
theorem c_X7_power_ok (l : Launch) (D : va_G) (cY : Nat → ClassId) (mx va vk vr vs vt vc vb : Nat) (rl ik th tl ta : Nat) (yr ys yo yf ye : Int32) (x y : Nat) (hxx : x < 65536) (hyy : y ≤ 1000000000) : m_Mi l yX7_power wsX7_power 5 120 D cY [.ref mx, .int (nI x), .int (nI y)] [(mx, .inr (7, [.ref va, .ref vk, .ref vr, .int (nI rl), .ref vs, .int (nI ik), .int (nI th), .ref vt, .int (nI tl), .int (nI ta), .int yr, .int ys, .int yo, .int yf, .int ye, .ref vc, .ref vb]))] (fun (res : Int32) (u : Unit) => res = nI (np x y)) (fun (u : Unit) => [(mx, .inr (7, [.ref va, .ref vk, .ref vr, .int (nI rl), .ref vs, .int (nI ik), .int (nI 0), .ref vt, .int (nI tl), .int (nI ta), .int yr, .int ys, .int yo, .int yf, .int ye, .ref vc, .ref vb]))]) := by
  refine m_enterI (cc := cX7_power) (maxL := 3) (ret := (some .int)) (by decide +kernel) rfl (Nat.le_of_ble_eq_true rfl) ?_
  intro p e s m below meth c A ls C0 hP hD hl
  obtain ⟨hx, hb, hr, hml, hts, hown, hlocks, hK, hA⟩ := id C0
  generalize hQ : MQ below _ _ s 0 0 A = Q
  have hS : va_S A s.heap s.heap [] := va_S.rf
  have hl : lv_has ls 3 [(0, .ref mx), (1, .int (nI x)), (2, .int (nI y))] := hl
  have hwd0 := hts (.constantLong RX7 153 (1000000000)) (by decide +kernel)
  refine lv_iload_n hx hb dX7_power_0 rfl (lv_at hl 1 rfl) ?_
  refine m_callSi (As := [.int (nI x)]) (rest := []) C0 hl hP hD hS (c_X7_isNimber l D cY (nI x) ) (va_cwS 1 hts gX7_power_X7_isNimber rfl rfl rfl (by decide +kernel) ⟨Nat.le_of_ble_eq_true rfl, Nat.le_of_ble_eq_true rfl⟩) dX7_power_1 [] rfl rfl rfl (Nat.le_of_ble_eq_true rfl) (Nat.zero_le _) (Nat.zero_le _) (fun _ => rfl) (fun r2 u H1 locs hw hP hD hS => ?_)
  try dsimp only at hw
  obtain rfl := hw
  have hP : va_P D vwCl [(mx, .inr (7, [.ref va, .ref vk, .ref vr, .int (nI rl), .ref vs, .int (nI ik), .int (nI th), .ref vt, .int (nI tl), .int (nI ta), .int yr, .int ys, .int yo, .int yf, .int ye, .ref vc, .ref vb]))] H1 := hP
  have hD : va_D A [(mx, .inr (7, [.ref va, .ref vk, .ref vr, .int (nI rl), .ref vs, .int (nI ik), .int (nI th), .ref vt, .int (nI tl), .int (nI ta), .int yr, .int ys, .int yo, .int yf, .int ye, .ref vc, .ref vb]))] := hD
  refine lv_topi (nm_r (congrArg nI (if_pos (m_isN_of hxx))) ?_)
  refine lv_if_eq (tgt := 31) hx hb dX7_power_4 (by decide) (fun c4 => ?_) (fun c4 => ?_)
  · exact absurd c4 (by decide)
  · refine lv_iload_n hx hb dX7_power_7 rfl (lv_at hl 2 rfl) ?_
    refine lv_i2l (v := Int32.toInt64 (nI y)) hx hb dX7_power_8 rfl ?_
    refine lv_lconst (v := 0) hx hb dX7_power_9 (by decide) ?_
    refine lv_topl (nm_r (show ((0 : Int64)) = Int32.toInt64 (0 : Int32) from by decide) ?_)
    refine lv_ldc2 hx hb hown hwd0 dX7_power_10 ?_
    refine lv_topl (nm_r (show ((1000000000 : Int64)) = Int32.toInt64 (1000000000 : Int32) from by decide) ?_)
    refine m_callSi (As := [.long (Int32.toInt64 (nI y)), .long (Int32.toInt64 (0 : Int32)), .long (Int32.toInt64 (1000000000 : Int32))]) (rest := []) C0 hl hP hD hS (c_X7_in l D cY (nI y) (0 : Int32) (1000000000 : Int32) ) (va_cwS 3 hts gX7_power_X7_in rfl rfl rfl (by decide +kernel) ⟨Nat.le_of_ble_eq_true rfl, Nat.le_of_ble_eq_true rfl⟩) dX7_power_13 [] rfl rfl rfl (Nat.le_of_ble_eq_true rfl) (Nat.zero_le _) (Nat.zero_le _) (fun _ => rfl) (fun r4 u H3 locs hw hP hD hS => ?_)
    try dsimp only at hw
    obtain rfl := hw
    have hP : va_P D vwCl [(mx, .inr (7, [.ref va, .ref vk, .ref vr, .int (nI rl), .ref vs, .int (nI ik), .int (nI th), .ref vt, .int (nI tl), .int (nI ta), .int yr, .int ys, .int yo, .int yf, .int ye, .ref vc, .ref vb]))] H3 := hP
    have hD : va_D A [(mx, .inr (7, [.ref va, .ref vk, .ref vr, .int (nI rl), .ref vs, .int (nI ik), .int (nI th), .ref vt, .int (nI tl), .int (nI ta), .int yr, .int ys, .int yo, .int yf, .int ye, .ref vc, .ref vb]))] := hD
    refine lv_topi (nm_r (congrArg nI (if_pos (⟨(nI_leI (a := 0) (b := y) (by decide) (by omega)).mpr (by omega), (nI_leI (a := y) (b := 1000000000) (by omega) (by decide)).mpr (by omega)⟩))) ?_)
    refine lv_if_eq (tgt := 31) hx hb dX7_power_16 (by decide) (fun c16 => ?_) (fun c16 => ?_)
    · exact absurd c16 (by decide)
    · refine lv_aload_n hx hb dX7_power_19 rfl (lv_at hl 0 rfl) ?_
      refine lv_iload_n hx hb dX7_power_20 rfl (lv_at hl 1 rfl) ?_
      refine lv_iload_n hx hb dX7_power_21 rfl (lv_at hl 2 rfl) ?_
      refine m_callSi (As := [.int (nI x), .int (nI y)]) (rest := [.ref mx]) C0 hl hP hD hS (c_X7_powered l D cY x y (by first | assumption | omega | exact nm_lt _ _ | exact np_lt _ _ | decide) (by first | assumption | omega | exact nm_lt _ _ | exact np_lt _ _ | decide)) (va_cwS 2 hts gX7_power_X7_powered rfl rfl rfl (by decide +kernel) ⟨Nat.le_of_ble_eq_true rfl, Nat.le_of_ble_eq_true rfl⟩) dX7_power_22 [] rfl rfl rfl (Nat.le_of_ble_eq_true rfl) (Nat.zero_le _) (Nat.zero_le _) (fun _ => rfl) (fun r6 u H5 locs hw hP hD hS => ?_)
      try dsimp only at hw
      obtain rfl := hw
      have hP : va_P D vwCl [(mx, .inr (7, [.ref va, .ref vk, .ref vr, .int (nI rl), .ref vs, .int (nI ik), .int (nI th), .ref vt, .int (nI tl), .int (nI ta), .int yr, .int ys, .int yo, .int yf, .int ye, .ref vc, .ref vb]))] H5 := hP
      have hD : va_D A [(mx, .inr (7, [.ref va, .ref vk, .ref vr, .int (nI rl), .ref vs, .int (nI ik), .int (nI th), .ref vt, .int (nI tl), .int (nI ta), .int yr, .int ys, .int yo, .int yf, .int ye, .ref vc, .ref vb]))] := hD
      refine m_callVi (As := [.int (nI (np x y))]) (rest := []) C0 hl hP hD hS (c_X7_told l D cY mx va vk vr vs vt vc vb rl ik th tl ta yr ys yo yf ye (nI (np x y)) ) (cwV 1 hts gX7_power_X7_told rfl rfl rfl (by decide +kernel) ⟨Nat.le_of_ble_eq_true rfl, Nat.le_of_ble_eq_true rfl⟩) dX7_power_25 [0] rfl rfl 0 rfl rfl rfl rfl (Nat.le_of_ble_eq_true rfl) (Nat.zero_le _) (Nat.zero_le _) (fun _ => rfl) (fun r8 u H7 locs hw hP hD hS => ?_)
      try dsimp only at hw
      obtain rfl := hw
      have hP : va_P D vwCl [(mx, .inr (7, [.ref va, .ref vk, .ref vr, .int (nI rl), .ref vs, .int (nI ik), .int (nI 0), .ref vt, .int (nI tl), .int (nI ta), .int yr, .int ys, .int yo, .int yf, .int ye, .ref vc, .ref vb]))] H7 := hP
      have hD : va_D A [(mx, .inr (7, [.ref va, .ref vk, .ref vr, .int (nI rl), .ref vs, .int (nI ik), .int (nI 0), .ref vt, .int (nI tl), .int (nI ta), .int yr, .int ys, .int yo, .int yf, .int ye, .ref vc, .ref vb]))] := hD
      refine lv_goto (tgt := 36) hx hb dX7_power_28 (by decide) ?_
      subst hQ
      exact m_iret C0 hS dX7_power_36 (u := ()) hP (by first | trivial | rfl | omega)
set_option maxHeartbeats 4000000 in
set_option maxRecDepth 100000 in
theorem c_X7_rootOf_f1 (l : Launch) (D : va_G) (cY : Nat → ClassId) (mx va vk vr vs vt vc vb : Nat) (rl ik th tl ta : Nat) (yr ys yo yf ye : Int32) (x : Int32) (hn : ¬ m_isN x) : m_Mi l yX7_rootOf wsX7_rootOf 2 45 D cY [.ref mx, .int x] [(mx, .inr (7, [.ref va, .ref vk, .ref vr, .int (nI rl), .ref vs, .int (nI ik), .int (nI th), .ref vt, .int (nI tl), .int (nI ta), .int yr, .int ys, .int yo, .int yf, .int ye, .ref vc, .ref vb]))] (fun (res : Int32) (u : Unit) => res = nI 0) (fun (u : Unit) => [(mx, .inr (7, [.ref va, .ref vk, .ref vr, .int (nI rl), .ref vs, .int (nI ik), .int (nI 1), .ref vt, .int (nI tl), .int (nI ta), .int yr, .int ys, .int yo, .int yf, .int ye, .ref vc, .ref vb]))]) := by
  refine m_enterI (cc := cX7_rootOf) (maxL := 2) (ret := (some .int)) (by decide +kernel) rfl (Nat.le_of_ble_eq_true rfl) ?_
  intro p e s m below meth c A ls C0 hP hD hl
  obtain ⟨hx, hb, hr, hml, hts, hown, hlocks, hK, hA⟩ := id C0
  generalize hQ : MQ below _ _ s 0 0 A = Q
  have hS : va_S A s.heap s.heap [] := va_S.rf
  have hl : lv_has ls 2 [(0, .ref mx), (1, .int x)] := hl
  refine lv_iload_n hx hb dX7_rootOf_0 rfl (lv_at hl 1 rfl) ?_
  refine m_callSi (As := [.int x]) (rest := []) C0 hl hP hD hS (c_X7_isNimber l D cY x ) (va_cwS 1 hts gX7_rootOf_X7_isNimber rfl rfl rfl (by decide +kernel) ⟨Nat.le_of_ble_eq_true rfl, Nat.le_of_ble_eq_true rfl⟩) dX7_rootOf_1 [] rfl rfl rfl (Nat.le_of_ble_eq_true rfl) (Nat.zero_le _) (Nat.zero_le _) (fun _ => rfl) (fun r2 u H1 locs hw hP hD hS => ?_)
  try dsimp only at hw
  obtain rfl := hw
  have hP : va_P D vwCl [(mx, .inr (7, [.ref va, .ref vk, .ref vr, .int (nI rl), .ref vs, .int (nI ik), .int (nI th), .ref vt, .int (nI tl), .int (nI ta), .int yr, .int ys, .int yo, .int yf, .int ye, .ref vc, .ref vb]))] H1 := hP
  have hD : va_D A [(mx, .inr (7, [.ref va, .ref vk, .ref vr, .int (nI rl), .ref vs, .int (nI ik), .int (nI th), .ref vt, .int (nI tl), .int (nI ta), .int yr, .int ys, .int yo, .int yf, .int ye, .ref vc, .ref vb]))] := hD
  refine lv_topi (nm_r (congrArg nI (if_neg (hn))) ?_)
  refine lv_if_eq (tgt := 18) hx hb dX7_rootOf_4 (by decide) (fun c4 => ?_) (fun c4 => ?_)
  · refine lv_aload_n hx hb dX7_rootOf_18 rfl (lv_at hl 0 rfl) ?_
    refine lv_iconst (v := nI 1) hx hb dX7_rootOf_19 (by decide) ?_
    refine m_callVi (As := [.int (nI 1)]) (rest := []) C0 hl hP hD hS (c_X7_fails l D cY mx va vk vr vs vt vc vb rl ik th tl ta yr ys yo yf ye 1 ) (cwV 1 hts gX7_rootOf_X7_fails rfl rfl rfl (by decide +kernel) ⟨Nat.le_of_ble_eq_true rfl, Nat.le_of_ble_eq_true rfl⟩) dX7_rootOf_20 [0] rfl rfl 0 rfl rfl rfl rfl (Nat.le_of_ble_eq_true rfl) (Nat.zero_le _) (Nat.zero_le _) (fun _ => rfl) (fun r4 u H3 locs hw hP hD hS => ?_)
    try dsimp only at hw
    obtain rfl := hw
    have hP : va_P D vwCl [(mx, .inr (7, [.ref va, .ref vk, .ref vr, .int (nI rl), .ref vs, .int (nI ik), .int (nI 1), .ref vt, .int (nI tl), .int (nI ta), .int yr, .int ys, .int yo, .int yf, .int ye, .ref vc, .ref vb]))] H3 := hP
    have hD : va_D A [(mx, .inr (7, [.ref va, .ref vk, .ref vr, .int (nI rl), .ref vs, .int (nI ik), .int (nI 1), .ref vt, .int (nI tl), .int (nI ta), .int yr, .int ys, .int yo, .int yf, .int ye, .ref vc, .ref vb]))] := hD
    subst hQ
    exact m_iret C0 hS dX7_rootOf_23 (u := ()) hP (by first | trivial | rfl | omega)
  · exact absurd c4 (by decide)
set_option maxHeartbeats 4000000 in
set_option maxRecDepth 100000 in
theorem c_X7_rootOf_ok (l : Launch) (D : va_G) (cY : Nat → ClassId) (mx va vk vr vs vt vc vb : Nat) (rl ik th tl ta : Nat) (yr ys yo yf ye : Int32) (x : Nat) (hxx : x < 65536) : m_Mi l yX7_rootOf wsX7_rootOf 6 140 D cY [.ref mx, .int (nI x)] [(mx, .inr (7, [.ref va, .ref vk, .ref vr, .int (nI rl), .ref vs, .int (nI ik), .int (nI th), .ref vt, .int (nI tl), .int (nI ta), .int yr, .int ys, .int yo, .int yf, .int ye, .ref vc, .ref vb]))] (fun (res : Int32) (u : Unit) => res = nI (np x 32768)) (fun (u : Unit) => [(mx, .inr (7, [.ref va, .ref vk, .ref vr, .int (nI rl), .ref vs, .int (nI ik), .int (nI 0), .ref vt, .int (nI tl), .int (nI ta), .int yr, .int ys, .int yo, .int yf, .int ye, .ref vc, .ref vb]))]) := by
  refine m_enterI (cc := cX7_rootOf) (maxL := 2) (ret := (some .int)) (by decide +kernel) rfl (Nat.le_of_ble_eq_true rfl) ?_
  intro p e s m below meth c A ls C0 hP hD hl
  obtain ⟨hx, hb, hr, hml, hts, hown, hlocks, hK, hA⟩ := id C0
  generalize hQ : MQ below _ _ s 0 0 A = Q
  have hS : va_S A s.heap s.heap [] := va_S.rf
  have hl : lv_has ls 2 [(0, .ref mx), (1, .int (nI x))] := hl
  refine lv_iload_n hx hb dX7_rootOf_0 rfl (lv_at hl 1 rfl) ?_
  refine m_callSi (As := [.int (nI x)]) (rest := []) C0 hl hP hD hS (c_X7_isNimber l D cY (nI x) ) (va_cwS 1 hts gX7_rootOf_X7_isNimber rfl rfl rfl (by decide +kernel) ⟨Nat.le_of_ble_eq_true rfl, Nat.le_of_ble_eq_true rfl⟩) dX7_rootOf_1 [] rfl rfl rfl (Nat.le_of_ble_eq_true rfl) (Nat.zero_le _) (Nat.zero_le _) (fun _ => rfl) (fun r2 u H1 locs hw hP hD hS => ?_)
  try dsimp only at hw
  obtain rfl := hw
  have hP : va_P D vwCl [(mx, .inr (7, [.ref va, .ref vk, .ref vr, .int (nI rl), .ref vs, .int (nI ik), .int (nI th), .ref vt, .int (nI tl), .int (nI ta), .int yr, .int ys, .int yo, .int yf, .int ye, .ref vc, .ref vb]))] H1 := hP
  have hD : va_D A [(mx, .inr (7, [.ref va, .ref vk, .ref vr, .int (nI rl), .ref vs, .int (nI ik), .int (nI th), .ref vt, .int (nI tl), .int (nI ta), .int yr, .int ys, .int yo, .int yf, .int ye, .ref vc, .ref vb]))] := hD
  refine lv_topi (nm_r (congrArg nI (if_pos (m_isN_of hxx))) ?_)
  refine lv_if_eq (tgt := 18) hx hb dX7_rootOf_4 (by decide) (fun c4 => ?_) (fun c4 => ?_)
  · exact absurd c4 (by decide)
  · refine lv_aload_n hx hb dX7_rootOf_7 rfl (lv_at hl 0 rfl) ?_
    refine lv_iload_n hx hb dX7_rootOf_8 rfl (lv_at hl 1 rfl) ?_
    refine m_callSi (As := [.int (nI x)]) (rest := [.ref mx]) C0 hl hP hD hS (c_X7_root l D cY x (by first | assumption | omega | exact nm_lt _ _ | exact np_lt _ _ | decide)) (va_cwS 1 hts gX7_rootOf_X7_root rfl rfl rfl (by decide +kernel) ⟨Nat.le_of_ble_eq_true rfl, Nat.le_of_ble_eq_true rfl⟩) dX7_rootOf_9 [] rfl rfl rfl (Nat.le_of_ble_eq_true rfl) (Nat.zero_le _) (Nat.zero_le _) (fun _ => rfl) (fun r4 u H3 locs hw hP hD hS => ?_)
    try dsimp only at hw
    obtain rfl := hw
    have hP : va_P D vwCl [(mx, .inr (7, [.ref va, .ref vk, .ref vr, .int (nI rl), .ref vs, .int (nI ik), .int (nI th), .ref vt, .int (nI tl), .int (nI ta), .int yr, .int ys, .int yo, .int yf, .int ye, .ref vc, .ref vb]))] H3 := hP
    have hD : va_D A [(mx, .inr (7, [.ref va, .ref vk, .ref vr, .int (nI rl), .ref vs, .int (nI ik), .int (nI th), .ref vt, .int (nI tl), .int (nI ta), .int yr, .int ys, .int yo, .int yf, .int ye, .ref vc, .ref vb]))] := hD
    refine m_callVi (As := [.int (nI (np x 32768))]) (rest := []) C0 hl hP hD hS (c_X7_told l D cY mx va vk vr vs vt vc vb rl ik th tl ta yr ys yo yf ye (nI (np x 32768)) ) (cwV 1 hts gX7_rootOf_X7_told rfl rfl rfl (by decide +kernel) ⟨Nat.le_of_ble_eq_true rfl, Nat.le_of_ble_eq_true rfl⟩) dX7_rootOf_12 [0] rfl rfl 0 rfl rfl rfl rfl (Nat.le_of_ble_eq_true rfl) (Nat.zero_le _) (Nat.zero_le _) (fun _ => rfl) (fun r6 u H5 locs hw hP hD hS => ?_)
    try dsimp only at hw
    obtain rfl := hw
    have hP : va_P D vwCl [(mx, .inr (7, [.ref va, .ref vk, .ref vr, .int (nI rl), .ref vs, .int (nI ik), .int (nI 0), .ref vt, .int (nI tl), .int (nI ta), .int yr, .int ys, .int yo, .int yf, .int ye, .ref vc, .ref vb]))] H5 := hP
    have hD : va_D A [(mx, .inr (7, [.ref va, .ref vk, .ref vr, .int (nI rl), .ref vs, .int (nI ik), .int (nI 0), .ref vt, .int (nI tl), .int (nI ta), .int yr, .int ys, .int yo, .int yf, .int ye, .ref vc, .ref vb]))] := hD
    refine lv_goto (tgt := 23) hx hb dX7_rootOf_15 (by decide) ?_
    subst hQ
    exact m_iret C0 hS dX7_rootOf_23 (u := ()) hP (by first | trivial | rfl | omega)
set_option maxHeartbeats 4000000 in
set_option maxRecDepth 100000 in
theorem c_X7_fieldOf_f1 (l : Launch) (D : va_G) (cY : Nat → ClassId) (mx va vk vr vs vt vc vb : Nat) (rl ik th tl ta : Nat) (yr ys yo yf ye : Int32) (x : Int32) (hn : ¬ m_isN x) : m_Mi l yX7_fieldOf wsX7_fieldOf 2 45 D cY [.ref mx, .int x] [(mx, .inr (7, [.ref va, .ref vk, .ref vr, .int (nI rl), .ref vs, .int (nI ik), .int (nI th), .ref vt, .int (nI tl), .int (nI ta), .int yr, .int ys, .int yo, .int yf, .int ye, .ref vc, .ref vb]))] (fun (res : Int32) (u : Unit) => res = nI 0) (fun (u : Unit) => [(mx, .inr (7, [.ref va, .ref vk, .ref vr, .int (nI rl), .ref vs, .int (nI ik), .int (nI 1), .ref vt, .int (nI tl), .int (nI ta), .int yr, .int ys, .int yo, .int yf, .int ye, .ref vc, .ref vb]))]) := by
  refine m_enterI (cc := cX7_fieldOf) (maxL := 2) (ret := (some .int)) (by decide +kernel) rfl (Nat.le_of_ble_eq_true rfl) ?_
  intro p e s m below meth c A ls C0 hP hD hl
  obtain ⟨hx, hb, hr, hml, hts, hown, hlocks, hK, hA⟩ := id C0
  generalize hQ : MQ below _ _ s 0 0 A = Q
  have hS : va_S A s.heap s.heap [] := va_S.rf
  have hl : lv_has ls 2 [(0, .ref mx), (1, .int x)] := hl
  refine lv_iload_n hx hb dX7_fieldOf_0 rfl (lv_at hl 1 rfl) ?_
  refine m_callSi (As := [.int x]) (rest := []) C0 hl hP hD hS (c_X7_isNimber l D cY x ) (va_cwS 1 hts gX7_fieldOf_X7_isNimber rfl rfl rfl (by decide +kernel) ⟨Nat.le_of_ble_eq_true rfl, Nat.le_of_ble_eq_true rfl⟩) dX7_fieldOf_1 [] rfl rfl rfl (Nat.le_of_ble_eq_true rfl) (Nat.zero_le _) (Nat.zero_le _) (fun _ => rfl) (fun r2 u H1 locs hw hP hD hS => ?_)
  try dsimp only at hw
  obtain rfl := hw
  have hP : va_P D vwCl [(mx, .inr (7, [.ref va, .ref vk, .ref vr, .int (nI rl), .ref vs, .int (nI ik), .int (nI th), .ref vt, .int (nI tl), .int (nI ta), .int yr, .int ys, .int yo, .int yf, .int ye, .ref vc, .ref vb]))] H1 := hP
  have hD : va_D A [(mx, .inr (7, [.ref va, .ref vk, .ref vr, .int (nI rl), .ref vs, .int (nI ik), .int (nI th), .ref vt, .int (nI tl), .int (nI ta), .int yr, .int ys, .int yo, .int yf, .int ye, .ref vc, .ref vb]))] := hD
  refine lv_topi (nm_r (congrArg nI (if_neg (hn))) ?_)
  refine lv_if_ne (tgt := 13) hx hb dX7_fieldOf_4 (by decide) (fun c4 => ?_) (fun c4 => ?_)
  · exact absurd c4 (by decide)
  · refine lv_aload_n hx hb dX7_fieldOf_7 rfl (lv_at hl 0 rfl) ?_
    refine lv_iconst (v := nI 1) hx hb dX7_fieldOf_8 (by decide) ?_
    refine m_callVi (As := [.int (nI 1)]) (rest := []) C0 hl hP hD hS (c_X7_fails l D cY mx va vk vr vs vt vc vb rl ik th tl ta yr ys yo yf ye 1 ) (cwV 1 hts gX7_fieldOf_X7_fails rfl rfl rfl (by decide +kernel) ⟨Nat.le_of_ble_eq_true rfl, Nat.le_of_ble_eq_true rfl⟩) dX7_fieldOf_9 [0] rfl rfl 0 rfl rfl rfl rfl (Nat.le_of_ble_eq_true rfl) (Nat.zero_le _) (Nat.zero_le _) (fun _ => rfl) (fun r4 u H3 locs hw hP hD hS => ?_)
    try dsimp only at hw
    obtain rfl := hw
    have hP : va_P D vwCl [(mx, .inr (7, [.ref va, .ref vk, .ref vr, .int (nI rl), .ref vs, .int (nI ik), .int (nI 1), .ref vt, .int (nI tl), .int (nI ta), .int yr, .int ys, .int yo, .int yf, .int ye, .ref vc, .ref vb]))] H3 := hP
    have hD : va_D A [(mx, .inr (7, [.ref va, .ref vk, .ref vr, .int (nI rl), .ref vs, .int (nI ik), .int (nI 1), .ref vt, .int (nI tl), .int (nI ta), .int yr, .int ys, .int yo, .int yf, .int ye, .ref vc, .ref vb]))] := hD
    subst hQ
    exact m_iret C0 hS dX7_fieldOf_12 (u := ()) hP (by first | trivial | rfl | omega)
set_option maxHeartbeats 4000000 in
set_option maxRecDepth 100000 in
theorem c_X7_fieldOf_ok (l : Launch) (D : va_G) (cY : Nat → ClassId) (mx va vk vr vs vt vc vb : Nat) (rl ik th tl ta : Nat) (yr ys yo yf ye : Int32) (x : Nat) (hxx : x < 65536) : m_Mi l yX7_fieldOf wsX7_fieldOf 2 45 D cY [.ref mx, .int (nI x)] [(mx, .inr (7, [.ref va, .ref vk, .ref vr, .int (nI rl), .ref vs, .int (nI ik), .int (nI th), .ref vt, .int (nI tl), .int (nI ta), .int yr, .int ys, .int yo, .int yf, .int ye, .ref vc, .ref vb]))] (fun (res : Int32) (u : Unit) => res = nI (n_fld x)) (fun (u : Unit) => [(mx, .inr (7, [.ref va, .ref vk, .ref vr, .int (nI rl), .ref vs, .int (nI ik), .int (nI 0), .ref vt, .int (nI tl), .int (nI ta), .int yr, .int ys, .int yo, .int yf, .int ye, .ref vc, .ref vb]))]) := by
  refine m_enterI (cc := cX7_fieldOf) (maxL := 2) (ret := (some .int)) (by decide +kernel) rfl (Nat.le_of_ble_eq_true rfl) ?_
  intro p e s m below meth c A ls C0 hP hD hl
  obtain ⟨hx, hb, hr, hml, hts, hown, hlocks, hK, hA⟩ := id C0
  generalize hQ : MQ below _ _ s 0 0 A = Q
  have hS : va_S A s.heap s.heap [] := va_S.rf
  have hl : lv_has ls 2 [(0, .ref mx), (1, .int (nI x))] := hl
  refine lv_iload_n hx hb dX7_fieldOf_0 rfl (lv_at hl 1 rfl) ?_
  refine m_callSi (As := [.int (nI x)]) (rest := []) C0 hl hP hD hS (c_X7_isNimber l D cY (nI x) ) (va_cwS 1 hts gX7_fieldOf_X7_isNimber rfl rfl rfl (by decide +kernel) ⟨Nat.le_of_ble_eq_true rfl, Nat.le_of_ble_eq_true rfl⟩) dX7_fieldOf_1 [] rfl rfl rfl (Nat.le_of_ble_eq_true rfl) (Nat.zero_le _) (Nat.zero_le _) (fun _ => rfl) (fun r2 u H1 locs hw hP hD hS => ?_)
  try dsimp only at hw
  obtain rfl := hw
  have hP : va_P D vwCl [(mx, .inr (7, [.ref va, .ref vk, .ref vr, .int (nI rl), .ref vs, .int (nI ik), .int (nI th), .ref vt, .int (nI tl), .int (nI ta), .int yr, .int ys, .int yo, .int yf, .int ye, .ref vc, .ref vb]))] H1 := hP
  have hD : va_D A [(mx, .inr (7, [.ref va, .ref vk, .ref vr, .int (nI rl), .ref vs, .int (nI ik), .int (nI th), .ref vt, .int (nI tl), .int (nI ta), .int yr, .int ys, .int yo, .int yf, .int ye, .ref vc, .ref vb]))] := hD
  refine lv_topi (nm_r (congrArg nI (if_pos (m_isN_of hxx))) ?_)
  refine lv_if_ne (tgt := 13) hx hb dX7_fieldOf_4 (by decide) (fun c4 => ?_) (fun c4 => ?_)
  · refine lv_aload_n hx hb dX7_fieldOf_13 rfl (lv_at hl 0 rfl) ?_
    refine lv_iload_n hx hb dX7_fieldOf_14 rfl (lv_at hl 1 rfl) ?_
    refine lv_iconst (v := nI 2) hx hb dX7_fieldOf_15 (by decide) ?_
    refine lv_icmp_ge (tgt := 23) hx hb dX7_fieldOf_16 (by decide) (fun c16 => ?_) (fun c16 => ?_)
    · have c16 : 2 ≤ x := (nI_leI (a := 2) (b := x) (by first | omega | exact Nat.lt_of_le_of_lt Nat.and_le_right (by decide) | exact Nat.lt_trans (nm_lt _ _) (by decide) | exact Nat.lt_trans (np_lt _ _) (by decide) | exact Nat.lt_trans (p_at_lt htx) (by decide)) (by first | omega | exact Nat.lt_of_le_of_lt Nat.and_le_right (by decide) | exact Nat.lt_trans (nm_lt _ _) (by decide) | exact Nat.lt_trans (np_lt _ _) (by decide) | exact Nat.lt_trans (p_at_lt htx) (by decide))).mp c16
      refine lv_iload_n hx hb dX7_fieldOf_23 rfl (lv_at hl 1 rfl) ?_
      refine lv_iconst (v := nI 4) hx hb dX7_fieldOf_24 (by decide) ?_
      refine lv_icmp_ge (tgt := 32) hx hb dX7_fieldOf_25 (by decide) (fun c25 => ?_) (fun c25 => ?_)
      · have c25 : 4 ≤ x := (nI_leI (a := 4) (b := x) (by first | omega | exact Nat.lt_of_le_of_lt Nat.and_le_right (by decide) | exact Nat.lt_trans (nm_lt _ _) (by decide) | exact Nat.lt_trans (np_lt _ _) (by decide) | exact Nat.lt_trans (p_at_lt htx) (by decide)) (by first | omega | exact Nat.lt_of_le_of_lt Nat.and_le_right (by decide) | exact Nat.lt_trans (nm_lt _ _) (by decide) | exact Nat.lt_trans (np_lt _ _) (by decide) | exact Nat.lt_trans (p_at_lt htx) (by decide))).mp c25
        refine lv_iload_n hx hb dX7_fieldOf_32 rfl (lv_at hl 1 rfl) ?_
        refine lv_bipush (v := nI 16) hx hb dX7_fieldOf_33 (by decide) ?_
        refine lv_icmp_ge (tgt := 42) hx hb dX7_fieldOf_35 (by decide) (fun c35 => ?_) (fun c35 => ?_)
        · have c35 : 16 ≤ x := (nI_leI (a := 16) (b := x) (by first | omega | exact Nat.lt_of_le_of_lt Nat.and_le_right (by decide) | exact Nat.lt_trans (nm_lt _ _) (by decide) | exact Nat.lt_trans (np_lt _ _) (by decide) | exact Nat.lt_trans (p_at_lt htx) (by decide)) (by first | omega | exact Nat.lt_of_le_of_lt Nat.and_le_right (by decide) | exact Nat.lt_trans (nm_lt _ _) (by decide) | exact Nat.lt_trans (np_lt _ _) (by decide) | exact Nat.lt_trans (p_at_lt htx) (by decide))).mp c35
          refine lv_iload_n hx hb dX7_fieldOf_42 rfl (lv_at hl 1 rfl) ?_
          refine lv_sipush (v := nI 256) hx hb dX7_fieldOf_43 (by decide) ?_
          refine lv_icmp_ge (tgt := 54) hx hb dX7_fieldOf_46 (by decide) (fun c46 => ?_) (fun c46 => ?_)
          · have c46 : 256 ≤ x := (nI_leI (a := 256) (b := x) (by first | omega | exact Nat.lt_of_le_of_lt Nat.and_le_right (by decide) | exact Nat.lt_trans (nm_lt _ _) (by decide) | exact Nat.lt_trans (np_lt _ _) (by decide) | exact Nat.lt_trans (p_at_lt htx) (by decide)) (by first | omega | exact Nat.lt_of_le_of_lt Nat.and_le_right (by decide) | exact Nat.lt_trans (nm_lt _ _) (by decide) | exact Nat.lt_trans (np_lt _ _) (by decide) | exact Nat.lt_trans (p_at_lt htx) (by decide))).mp c46
            refine lv_bipush (v := nI 16) hx hb dX7_fieldOf_54 (by decide) ?_
            refine m_callVi (As := [.int (nI 16)]) (rest := []) C0 hl hP hD hS (c_X7_told l D cY mx va vk vr vs vt vc vb rl ik th tl ta yr ys yo yf ye (nI 16) ) (cwV 1 hts gX7_fieldOf_X7_told rfl rfl rfl (by decide +kernel) ⟨Nat.le_of_ble_eq_true rfl, Nat.le_of_ble_eq_true rfl⟩) dX7_fieldOf_56 [0] rfl rfl 0 rfl rfl rfl rfl (Nat.le_of_ble_eq_true rfl) (Nat.zero_le _) (Nat.zero_le _) (fun _ => rfl) (fun r4 u H3 locs hw hP hD hS => ?_)
            try dsimp only at hw
            obtain rfl := hw
            have hP : va_P D vwCl [(mx, .inr (7, [.ref va, .ref vk, .ref vr, .int (nI rl), .ref vs, .int (nI ik), .int (nI 0), .ref vt, .int (nI tl), .int (nI ta), .int yr, .int ys, .int yo, .int yf, .int ye, .ref vc, .ref vb]))] H3 := hP
            have hD : va_D A [(mx, .inr (7, [.ref va, .ref vk, .ref vr, .int (nI rl), .ref vs, .int (nI ik), .int (nI 0), .ref vt, .int (nI tl), .int (nI ta), .int yr, .int ys, .int yo, .int yf, .int ye, .ref vc, .ref vb]))] := hD
            subst hQ
            exact m_iret C0 hS dX7_fieldOf_59 (u := ()) hP (by rw [n_fld]; first | rw [if_pos (by omega)] | rw [if_neg (by omega), if_pos (by omega)] | rw [if_neg (by omega), if_neg (by omega), if_pos (by omega)] | rw [if_neg (by omega), if_neg (by omega), if_neg (by omega), if_pos (by omega)] | rw [if_neg (by omega), if_neg (by omega), if_neg (by omega), if_neg (by omega)])
          · have c46 : ¬ (256 ≤ x) := fun qq9 => c46 ((nI_leI (a := 256) (b := x) (by first | omega | exact Nat.lt_of_le_of_lt Nat.and_le_right (by decide) | exact Nat.lt_trans (nm_lt _ _) (by decide) | exact Nat.lt_trans (np_lt _ _) (by decide) | exact Nat.lt_trans (p_at_lt htx) (by decide)) (by first | omega | exact Nat.lt_of_le_of_lt Nat.and_le_right (by decide) | exact Nat.lt_trans (nm_lt _ _) (by decide) | exact Nat.lt_trans (np_lt _ _) (by decide) | exact Nat.lt_trans (p_at_lt htx) (by decide))).mpr qq9)
            refine lv_bipush (v := nI 8) hx hb dX7_fieldOf_49 (by decide) ?_
            refine lv_goto (tgt := 56) hx hb dX7_fieldOf_51 (by decide) ?_
            refine m_callVi (As := [.int (nI 8)]) (rest := []) C0 hl hP hD hS (c_X7_told l D cY mx va vk vr vs vt vc vb rl ik th tl ta yr ys yo yf ye (nI 8) ) (cwV 1 hts gX7_fieldOf_X7_told rfl rfl rfl (by decide +kernel) ⟨Nat.le_of_ble_eq_true rfl, Nat.le_of_ble_eq_true rfl⟩) dX7_fieldOf_56 [0] rfl rfl 0 rfl rfl rfl rfl (Nat.le_of_ble_eq_true rfl) (Nat.zero_le _) (Nat.zero_le _) (fun _ => rfl) (fun r6 u H5 locs hw hP hD hS => ?_)
            try dsimp only at hw
            obtain rfl := hw
            have hP : va_P D vwCl [(mx, .inr (7, [.ref va, .ref vk, .ref vr, .int (nI rl), .ref vs, .int (nI ik), .int (nI 0), .ref vt, .int (nI tl), .int (nI ta), .int yr, .int ys, .int yo, .int yf, .int ye, .ref vc, .ref vb]))] H5 := hP
            have hD : va_D A [(mx, .inr (7, [.ref va, .ref vk, .ref vr, .int (nI rl), .ref vs, .int (nI ik), .int (nI 0), .ref vt, .int (nI tl), .int (nI ta), .int yr, .int ys, .int yo, .int yf, .int ye, .ref vc, .ref vb]))] := hD
            subst hQ
            exact m_iret C0 hS dX7_fieldOf_59 (u := ()) hP (by rw [n_fld]; first | rw [if_pos (by omega)] | rw [if_neg (by omega), if_pos (by omega)] | rw [if_neg (by omega), if_neg (by omega), if_pos (by omega)] | rw [if_neg (by omega), if_neg (by omega), if_neg (by omega), if_pos (by omega)] | rw [if_neg (by omega), if_neg (by omega), if_neg (by omega), if_neg (by omega)])
        · have c35 : ¬ (16 ≤ x) := fun qq9 => c35 ((nI_leI (a := 16) (b := x) (by first | omega | exact Nat.lt_of_le_of_lt Nat.and_le_right (by decide) | exact Nat.lt_trans (nm_lt _ _) (by decide) | exact Nat.lt_trans (np_lt _ _) (by decide) | exact Nat.lt_trans (p_at_lt htx) (by decide)) (by first | omega | exact Nat.lt_of_le_of_lt Nat.and_le_right (by decide) | exact Nat.lt_trans (nm_lt _ _) (by decide) | exact Nat.lt_trans (np_lt _ _) (by decide) | exact Nat.lt_trans (p_at_lt htx) (by decide))).mpr qq9)
          refine lv_iconst (v := nI 4) hx hb dX7_fieldOf_38 (by decide) ?_
          refine lv_goto (tgt := 56) hx hb dX7_fieldOf_39 (by decide) ?_
          refine m_callVi (As := [.int (nI 4)]) (rest := []) C0 hl hP hD hS (c_X7_told l D cY mx va vk vr vs vt vc vb rl ik th tl ta yr ys yo yf ye (nI 4) ) (cwV 1 hts gX7_fieldOf_X7_told rfl rfl rfl (by decide +kernel) ⟨Nat.le_of_ble_eq_true rfl, Nat.le_of_ble_eq_true rfl⟩) dX7_fieldOf_56 [0] rfl rfl 0 rfl rfl rfl rfl (Nat.le_of_ble_eq_true rfl) (Nat.zero_le _) (Nat.zero_le _) (fun _ => rfl) (fun r8 u H7 locs hw hP hD hS => ?_)
          try dsimp only at hw
          obtain rfl := hw
          have hP : va_P D vwCl [(mx, .inr (7, [.ref va, .ref vk, .ref vr, .int (nI rl), .ref vs, .int (nI ik), .int (nI 0), .ref vt, .int (nI tl), .int (nI ta), .int yr, .int ys, .int yo, .int yf, .int ye, .ref vc, .ref vb]))] H7 := hP
          have hD : va_D A [(mx, .inr (7, [.ref va, .ref vk, .ref vr, .int (nI rl), .ref vs, .int (nI ik), .int (nI 0), .ref vt, .int (nI tl), .int (nI ta), .int yr, .int ys, .int yo, .int yf, .int ye, .ref vc, .ref vb]))] := hD
          subst hQ
          exact m_iret C0 hS dX7_fieldOf_59 (u := ()) hP (by rw [n_fld]; first | rw [if_pos (by omega)] | rw [if_neg (by omega), if_pos (by omega)] | rw [if_neg (by omega), if_neg (by omega), if_pos (by omega)] | rw [if_neg (by omega), if_neg (by omega), if_neg (by omega), if_pos (by omega)] | rw [if_neg (by omega), if_neg (by omega), if_neg (by omega), if_neg (by omega)])
      · have c25 : ¬ (4 ≤ x) := fun qq9 => c25 ((nI_leI (a := 4) (b := x) (by first | omega | exact Nat.lt_of_le_of_lt Nat.and_le_right (by decide) | exact Nat.lt_trans (nm_lt _ _) (by decide) | exact Nat.lt_trans (np_lt _ _) (by decide) | exact Nat.lt_trans (p_at_lt htx) (by decide)) (by first | omega | exact Nat.lt_of_le_of_lt Nat.and_le_right (by decide) | exact Nat.lt_trans (nm_lt _ _) (by decide) | exact Nat.lt_trans (np_lt _ _) (by decide) | exact Nat.lt_trans (p_at_lt htx) (by decide))).mpr qq9)
        refine lv_iconst (v := nI 2) hx hb dX7_fieldOf_28 (by decide) ?_
        refine lv_goto (tgt := 56) hx hb dX7_fieldOf_29 (by decide) ?_
        refine m_callVi (As := [.int (nI 2)]) (rest := []) C0 hl hP hD hS (c_X7_told l D cY mx va vk vr vs vt vc vb rl ik th tl ta yr ys yo yf ye (nI 2) ) (cwV 1 hts gX7_fieldOf_X7_told rfl rfl rfl (by decide +kernel) ⟨Nat.le_of_ble_eq_true rfl, Nat.le_of_ble_eq_true rfl⟩) dX7_fieldOf_56 [0] rfl rfl 0 rfl rfl rfl rfl (Nat.le_of_ble_eq_true rfl) (Nat.zero_le _) (Nat.zero_le _) (fun _ => rfl) (fun r10 u H9 locs hw hP hD hS => ?_)
        try dsimp only at hw
        obtain rfl := hw
        have hP : va_P D vwCl [(mx, .inr (7, [.ref va, .ref vk, .ref vr, .int (nI rl), .ref vs, .int (nI ik), .int (nI 0), .ref vt, .int (nI tl), .int (nI ta), .int yr, .int ys, .int yo, .int yf, .int ye, .ref vc, .ref vb]))] H9 := hP
        have hD : va_D A [(mx, .inr (7, [.ref va, .ref vk, .ref vr, .int (nI rl), .ref vs, .int (nI ik), .int (nI 0), .ref vt, .int (nI tl), .int (nI ta), .int yr, .int ys, .int yo, .int yf, .int ye, .ref vc, .ref vb]))] := hD
        subst hQ
        exact m_iret C0 hS dX7_fieldOf_59 (u := ()) hP (by rw [n_fld]; first | rw [if_pos (by omega)] | rw [if_neg (by omega), if_pos (by omega)] | rw [if_neg (by omega), if_neg (by omega), if_pos (by omega)] | rw [if_neg (by omega), if_neg (by omega), if_neg (by omega), if_pos (by omega)] | rw [if_neg (by omega), if_neg (by omega), if_neg (by omega), if_neg (by omega)])
    · have c16 : ¬ (2 ≤ x) := fun qq9 => c16 ((nI_leI (a := 2) (b := x) (by first | omega | exact Nat.lt_of_le_of_lt Nat.and_le_right (by decide) | exact Nat.lt_trans (nm_lt _ _) (by decide) | exact Nat.lt_trans (np_lt _ _) (by decide) | exact Nat.lt_trans (p_at_lt htx) (by decide)) (by first | omega | exact Nat.lt_of_le_of_lt Nat.and_le_right (by decide) | exact Nat.lt_trans (nm_lt _ _) (by decide) | exact Nat.lt_trans (np_lt _ _) (by decide) | exact Nat.lt_trans (p_at_lt htx) (by decide))).mpr qq9)
      refine lv_iconst (v := nI 1) hx hb dX7_fieldOf_19 (by decide) ?_
      refine lv_goto (tgt := 56) hx hb dX7_fieldOf_20 (by decide) ?_
      refine m_callVi (As := [.int (nI 1)]) (rest := []) C0 hl hP hD hS (c_X7_told l D cY mx va vk vr vs vt vc vb rl ik th tl ta yr ys yo yf ye (nI 1) ) (cwV 1 hts gX7_fieldOf_X7_told rfl rfl rfl (by decide +kernel) ⟨Nat.le_of_ble_eq_true rfl, Nat.le_of_ble_eq_true rfl⟩) dX7_fieldOf_56 [0] rfl rfl 0 rfl rfl rfl rfl (Nat.le_of_ble_eq_true rfl) (Nat.zero_le _) (Nat.zero_le _) (fun _ => rfl) (fun r12 u H11 locs hw hP hD hS => ?_)
      try dsimp only at hw
      obtain rfl := hw
      have hP : va_P D vwCl [(mx, .inr (7, [.ref va, .ref vk, .ref vr, .int (nI rl), .ref vs, .int (nI ik), .int (nI 0), .ref vt, .int (nI tl), .int (nI ta), .int yr, .int ys, .int yo, .int yf, .int ye, .ref vc, .ref vb]))] H11 := hP
      have hD : va_D A [(mx, .inr (7, [.ref va, .ref vk, .ref vr, .int (nI rl), .ref vs, .int (nI ik), .int (nI 0), .ref vt, .int (nI tl), .int (nI ta), .int yr, .int ys, .int yo, .int yf, .int ye, .ref vc, .ref vb]))] := hD
      subst hQ
      exact m_iret C0 hS dX7_fieldOf_59 (u := ()) hP (by rw [n_fld]; first | rw [if_pos (by omega)] | rw [if_neg (by omega), if_pos (by omega)] | rw [if_neg (by omega), if_neg (by omega), if_pos (by omega)] | rw [if_neg (by omega), if_neg (by omega), if_neg (by omega), if_pos (by omega)] | rw [if_neg (by omega), if_neg (by omega), if_neg (by omega), if_neg (by omega)])
  · exact absurd c4 (by decide)
set_option maxHeartbeats 4000000 in
set_option maxRecDepth 100000 in
theorem c_X7_orderByDivisors_f1 (l : Launch) (D : va_G) (cY : Nat → ClassId) (mx va vk vr vs vt vc vb : Nat) (rl ik th tl ta : Nat) (yr ys yo yf ye : Int32) (x : Int32) (hn : ¬ m_isN x) : m_Mi l yX7_orderByDivisors wsX7_orderByDivisors 2 45 D cY [.ref mx, .int x] [(mx, .inr (7, [.ref va, .ref vk, .ref vr, .int (nI rl), .ref vs, .int (nI ik), .int (nI th), .ref vt, .int (nI tl), .int (nI ta), .int yr, .int ys, .int yo, .int yf, .int ye, .ref vc, .ref vb]))] (fun (res : Int32) (u : Unit) => res = nI 0) (fun (u : Unit) => [(mx, .inr (7, [.ref va, .ref vk, .ref vr, .int (nI rl), .ref vs, .int (nI ik), .int (nI 1), .ref vt, .int (nI tl), .int (nI ta), .int yr, .int ys, .int yo, .int yf, .int ye, .ref vc, .ref vb]))]) := by
  refine m_enterI (cc := cX7_orderByDivisors) (maxL := 2) (ret := (some .int)) (by decide +kernel) rfl (Nat.le_of_ble_eq_true rfl) ?_
  intro p e s m below meth c A ls C0 hP hD hl
  obtain ⟨hx, hb, hr, hml, hts, hown, hlocks, hK, hA⟩ := id C0
  generalize hQ : MQ below _ _ s 0 0 A = Q
  have hS : va_S A s.heap s.heap [] := va_S.rf
  have hl : lv_has ls 2 [(0, .ref mx), (1, .int x)] := hl
  refine lv_iload_n hx hb dX7_orderByDivisors_0 rfl (lv_at hl 1 rfl) ?_
  refine m_callSi (As := [.int x]) (rest := []) C0 hl hP hD hS (c_X7_isNimber l D cY x ) (va_cwS 1 hts gX7_orderByDivisors_X7_isNimber rfl rfl rfl (by decide +kernel) ⟨Nat.le_of_ble_eq_true rfl, Nat.le_of_ble_eq_true rfl⟩) dX7_orderByDivisors_1 [] rfl rfl rfl (Nat.le_of_ble_eq_true rfl) (Nat.zero_le _) (Nat.zero_le _) (fun _ => rfl) (fun r2 u H1 locs hw hP hD hS => ?_)
  try dsimp only at hw
  obtain rfl := hw
  have hP : va_P D vwCl [(mx, .inr (7, [.ref va, .ref vk, .ref vr, .int (nI rl), .ref vs, .int (nI ik), .int (nI th), .ref vt, .int (nI tl), .int (nI ta), .int yr, .int ys, .int yo, .int yf, .int ye, .ref vc, .ref vb]))] H1 := hP
  have hD : va_D A [(mx, .inr (7, [.ref va, .ref vk, .ref vr, .int (nI rl), .ref vs, .int (nI ik), .int (nI th), .ref vt, .int (nI tl), .int (nI ta), .int yr, .int ys, .int yo, .int yf, .int ye, .ref vc, .ref vb]))] := hD
  refine lv_topi (nm_r (congrArg nI (if_neg (hn))) ?_)
  refine lv_if_eq (tgt := 18) hx hb dX7_orderByDivisors_4 (by decide) (fun c4 => ?_) (fun c4 => ?_)
  · refine lv_aload_n hx hb dX7_orderByDivisors_18 rfl (lv_at hl 0 rfl) ?_
    refine lv_iconst (v := nI 1) hx hb dX7_orderByDivisors_19 (by decide) ?_
    refine m_callVi (As := [.int (nI 1)]) (rest := []) C0 hl hP hD hS (c_X7_fails l D cY mx va vk vr vs vt vc vb rl ik th tl ta yr ys yo yf ye 1 ) (cwV 1 hts gX7_orderByDivisors_X7_fails rfl rfl rfl (by decide +kernel) ⟨Nat.le_of_ble_eq_true rfl, Nat.le_of_ble_eq_true rfl⟩) dX7_orderByDivisors_20 [0] rfl rfl 0 rfl rfl rfl rfl (Nat.le_of_ble_eq_true rfl) (Nat.zero_le _) (Nat.zero_le _) (fun _ => rfl) (fun r4 u H3 locs hw hP hD hS => ?_)
    try dsimp only at hw
    obtain rfl := hw
    have hP : va_P D vwCl [(mx, .inr (7, [.ref va, .ref vk, .ref vr, .int (nI rl), .ref vs, .int (nI ik), .int (nI 1), .ref vt, .int (nI tl), .int (nI ta), .int yr, .int ys, .int yo, .int yf, .int ye, .ref vc, .ref vb]))] H3 := hP
    have hD : va_D A [(mx, .inr (7, [.ref va, .ref vk, .ref vr, .int (nI rl), .ref vs, .int (nI ik), .int (nI 1), .ref vt, .int (nI tl), .int (nI ta), .int yr, .int ys, .int yo, .int yf, .int ye, .ref vc, .ref vb]))] := hD
    subst hQ
    exact m_iret C0 hS dX7_orderByDivisors_23 (u := ()) hP (by first | trivial | rfl | omega)
  · exact absurd c4 (by decide)
set_option maxHeartbeats 4000000 in
set_option maxRecDepth 100000 in
theorem c_X7_orderByDivisors_ok (l : Launch) (D : va_G) (cY : Nat → ClassId) (mx va vk vr vs vt vc vb : Nat) (rl ik th tl ta : Nat) (yr ys yo yf ye : Int32) (x : Nat) (hxx : x < 65536) : m_Mi l yX7_orderByDivisors wsX7_orderByDivisors 7 162 D cY [.ref mx, .int (nI x)] [(mx, .inr (7, [.ref va, .ref vk, .ref vr, .int (nI rl), .ref vs, .int (nI ik), .int (nI th), .ref vt, .int (nI tl), .int (nI ta), .int yr, .int ys, .int yo, .int yf, .int ye, .ref vc, .ref vb]))] (fun (res : Int32) (u : Unit) => res = n_ord x) (fun (u : Unit) => [(mx, .inr (7, [.ref va, .ref vk, .ref vr, .int (nI rl), .ref vs, .int (nI ik), .int (nI 0), .ref vt, .int (nI tl), .int (nI ta), .int yr, .int ys, .int yo, .int yf, .int ye, .ref vc, .ref vb]))]) := by
  refine m_enterI (cc := cX7_orderByDivisors) (maxL := 2) (ret := (some .int)) (by decide +kernel) rfl (Nat.le_of_ble_eq_true rfl) ?_
  intro p e s m below meth c A ls C0 hP hD hl
  obtain ⟨hx, hb, hr, hml, hts, hown, hlocks, hK, hA⟩ := id C0
  generalize hQ : MQ below _ _ s 0 0 A = Q
  have hS : va_S A s.heap s.heap [] := va_S.rf
  have hl : lv_has ls 2 [(0, .ref mx), (1, .int (nI x))] := hl
  refine lv_iload_n hx hb dX7_orderByDivisors_0 rfl (lv_at hl 1 rfl) ?_
  refine m_callSi (As := [.int (nI x)]) (rest := []) C0 hl hP hD hS (c_X7_isNimber l D cY (nI x) ) (va_cwS 1 hts gX7_orderByDivisors_X7_isNimber rfl rfl rfl (by decide +kernel) ⟨Nat.le_of_ble_eq_true rfl, Nat.le_of_ble_eq_true rfl⟩) dX7_orderByDivisors_1 [] rfl rfl rfl (Nat.le_of_ble_eq_true rfl) (Nat.zero_le _) (Nat.zero_le _) (fun _ => rfl) (fun r2 u H1 locs hw hP hD hS => ?_)
  try dsimp only at hw
  obtain rfl := hw
  have hP : va_P D vwCl [(mx, .inr (7, [.ref va, .ref vk, .ref vr, .int (nI rl), .ref vs, .int (nI ik), .int (nI th), .ref vt, .int (nI tl), .int (nI ta), .int yr, .int ys, .int yo, .int yf, .int ye, .ref vc, .ref vb]))] H1 := hP
  have hD : va_D A [(mx, .inr (7, [.ref va, .ref vk, .ref vr, .int (nI rl), .ref vs, .int (nI ik), .int (nI th), .ref vt, .int (nI tl), .int (nI ta), .int yr, .int ys, .int yo, .int yf, .int ye, .ref vc, .ref vb]))] := hD
  refine lv_topi (nm_r (congrArg nI (if_pos (m_isN_of hxx))) ?_)
  refine lv_if_eq (tgt := 18) hx hb dX7_orderByDivisors_4 (by decide) (fun c4 => ?_) (fun c4 => ?_)
  · exact absurd c4 (by decide)
  · refine lv_aload_n hx hb dX7_orderByDivisors_7 rfl (lv_at hl 0 rfl) ?_
    refine lv_iload_n hx hb dX7_orderByDivisors_8 rfl (lv_at hl 1 rfl) ?_
    refine m_callSi (As := [.int (nI x)]) (rest := [.ref mx]) C0 hl hP hD hS (c_X7_order l D cY x (by first | assumption | omega | exact nm_lt _ _ | exact np_lt _ _ | decide)) (va_cwS 1 hts gX7_orderByDivisors_X7_order rfl rfl rfl (by decide +kernel) ⟨Nat.le_of_ble_eq_true rfl, Nat.le_of_ble_eq_true rfl⟩) dX7_orderByDivisors_9 [] rfl rfl rfl (Nat.le_of_ble_eq_true rfl) (Nat.zero_le _) (Nat.zero_le _) (fun _ => rfl) (fun r4 u H3 locs hw hP hD hS => ?_)
    try dsimp only at hw
    obtain rfl := hw
    have hP : va_P D vwCl [(mx, .inr (7, [.ref va, .ref vk, .ref vr, .int (nI rl), .ref vs, .int (nI ik), .int (nI th), .ref vt, .int (nI tl), .int (nI ta), .int yr, .int ys, .int yo, .int yf, .int ye, .ref vc, .ref vb]))] H3 := hP
    have hD : va_D A [(mx, .inr (7, [.ref va, .ref vk, .ref vr, .int (nI rl), .ref vs, .int (nI ik), .int (nI th), .ref vt, .int (nI tl), .int (nI ta), .int yr, .int ys, .int yo, .int yf, .int ye, .ref vc, .ref vb]))] := hD
    refine m_callVi (As := [.int (n_ord x)]) (rest := []) C0 hl hP hD hS (c_X7_told l D cY mx va vk vr vs vt vc vb rl ik th tl ta yr ys yo yf ye (n_ord x) ) (cwV 1 hts gX7_orderByDivisors_X7_told rfl rfl rfl (by decide +kernel) ⟨Nat.le_of_ble_eq_true rfl, Nat.le_of_ble_eq_true rfl⟩) dX7_orderByDivisors_12 [0] rfl rfl 0 rfl rfl rfl rfl (Nat.le_of_ble_eq_true rfl) (Nat.zero_le _) (Nat.zero_le _) (fun _ => rfl) (fun r6 u H5 locs hw hP hD hS => ?_)
    try dsimp only at hw
    obtain rfl := hw
    have hP : va_P D vwCl [(mx, .inr (7, [.ref va, .ref vk, .ref vr, .int (nI rl), .ref vs, .int (nI ik), .int (nI 0), .ref vt, .int (nI tl), .int (nI ta), .int yr, .int ys, .int yo, .int yf, .int ye, .ref vc, .ref vb]))] H5 := hP
    have hD : va_D A [(mx, .inr (7, [.ref va, .ref vk, .ref vr, .int (nI rl), .ref vs, .int (nI ik), .int (nI 0), .ref vt, .int (nI tl), .int (nI ta), .int yr, .int ys, .int yo, .int yf, .int ye, .ref vc, .ref vb]))] := hD
    refine lv_goto (tgt := 23) hx hb dX7_orderByDivisors_15 (by decide) ?_
    subst hQ
    exact m_iret C0 hS dX7_orderByDivisors_23 (u := ()) hP (by first | trivial | rfl | omega)
set_option maxHeartbeats 4000000 in
set_option maxRecDepth 100000 in
theorem c_X7_traceOf_f1 (l : Launch) (D : va_G) (cY : Nat → ClassId) (mx va vk vr vs vt vc vb : Nat) (rl ik th tl ta : Nat) (yr ys yo yf ye : Int32) (x : Int32) (hn : ¬ m_isN x) : m_Mi l yX7_traceOf wsX7_traceOf 2 45 D cY [.ref mx, .int x] [(mx, .inr (7, [.ref va, .ref vk, .ref vr, .int (nI rl), .ref vs, .int (nI ik), .int (nI th), .ref vt, .int (nI tl), .int (nI ta), .int yr, .int ys, .int yo, .int yf, .int ye, .ref vc, .ref vb]))] (fun (res : Int32) (u : Unit) => res = nI 0) (fun (u : Unit) => [(mx, .inr (7, [.ref va, .ref vk, .ref vr, .int (nI rl), .ref vs, .int (nI ik), .int (nI 1), .ref vt, .int (nI tl), .int (nI ta), .int yr, .int ys, .int yo, .int yf, .int ye, .ref vc, .ref vb]))]) := by
  refine m_enterI (cc := cX7_traceOf) (maxL := 2) (ret := (some .int)) (by decide +kernel) rfl (Nat.le_of_ble_eq_true rfl) ?_
  intro p e s m below meth c A ls C0 hP hD hl
  obtain ⟨hx, hb, hr, hml, hts, hown, hlocks, hK, hA⟩ := id C0
  generalize hQ : MQ below _ _ s 0 0 A = Q
  have hS : va_S A s.heap s.heap [] := va_S.rf
  have hl : lv_has ls 2 [(0, .ref mx), (1, .int x)] := hl
  refine lv_iload_n hx hb dX7_traceOf_0 rfl (lv_at hl 1 rfl) ?_
  refine m_callSi (As := [.int x]) (rest := []) C0 hl hP hD hS (c_X7_isNimber l D cY x ) (va_cwS 1 hts gX7_traceOf_X7_isNimber rfl rfl rfl (by decide +kernel) ⟨Nat.le_of_ble_eq_true rfl, Nat.le_of_ble_eq_true rfl⟩) dX7_traceOf_1 [] rfl rfl rfl (Nat.le_of_ble_eq_true rfl) (Nat.zero_le _) (Nat.zero_le _) (fun _ => rfl) (fun r2 u H1 locs hw hP hD hS => ?_)
  try dsimp only at hw
  obtain rfl := hw
  have hP : va_P D vwCl [(mx, .inr (7, [.ref va, .ref vk, .ref vr, .int (nI rl), .ref vs, .int (nI ik), .int (nI th), .ref vt, .int (nI tl), .int (nI ta), .int yr, .int ys, .int yo, .int yf, .int ye, .ref vc, .ref vb]))] H1 := hP
  have hD : va_D A [(mx, .inr (7, [.ref va, .ref vk, .ref vr, .int (nI rl), .ref vs, .int (nI ik), .int (nI th), .ref vt, .int (nI tl), .int (nI ta), .int yr, .int ys, .int yo, .int yf, .int ye, .ref vc, .ref vb]))] := hD
  refine lv_topi (nm_r (congrArg nI (if_neg (hn))) ?_)
  refine lv_if_eq (tgt := 18) hx hb dX7_traceOf_4 (by decide) (fun c4 => ?_) (fun c4 => ?_)
  · refine lv_aload_n hx hb dX7_traceOf_18 rfl (lv_at hl 0 rfl) ?_
    refine lv_iconst (v := nI 1) hx hb dX7_traceOf_19 (by decide) ?_
    refine m_callVi (As := [.int (nI 1)]) (rest := []) C0 hl hP hD hS (c_X7_fails l D cY mx va vk vr vs vt vc vb rl ik th tl ta yr ys yo yf ye 1 ) (cwV 1 hts gX7_traceOf_X7_fails rfl rfl rfl (by decide +kernel) ⟨Nat.le_of_ble_eq_true rfl, Nat.le_of_ble_eq_true rfl⟩) dX7_traceOf_20 [0] rfl rfl 0 rfl rfl rfl rfl (Nat.le_of_ble_eq_true rfl) (Nat.zero_le _) (Nat.zero_le _) (fun _ => rfl) (fun r4 u H3 locs hw hP hD hS => ?_)
    try dsimp only at hw
    obtain rfl := hw
    have hP : va_P D vwCl [(mx, .inr (7, [.ref va, .ref vk, .ref vr, .int (nI rl), .ref vs, .int (nI ik), .int (nI 1), .ref vt, .int (nI tl), .int (nI ta), .int yr, .int ys, .int yo, .int yf, .int ye, .ref vc, .ref vb]))] H3 := hP
    have hD : va_D A [(mx, .inr (7, [.ref va, .ref vk, .ref vr, .int (nI rl), .ref vs, .int (nI ik), .int (nI 1), .ref vt, .int (nI tl), .int (nI ta), .int yr, .int ys, .int yo, .int yf, .int ye, .ref vc, .ref vb]))] := hD
    subst hQ
    exact m_iret C0 hS dX7_traceOf_23 (u := ()) hP (by first | trivial | rfl | omega)
  · exact absurd c4 (by decide)
set_option maxHeartbeats 4000000 in
set_option maxRecDepth 100000 in
theorem c_X7_traceOf_ok (l : Launch) (D : va_G) (cY : Nat → ClassId) (mx va vk vr vs vt vc vb : Nat) (rl ik th tl ta : Nat) (yr ys yo yf ye : Int32) (x : Nat) (hxx : x < 65536) : m_Mi l yX7_traceOf wsX7_traceOf 5 119 D cY [.ref mx, .int (nI x)] [(mx, .inr (7, [.ref va, .ref vk, .ref vr, .int (nI rl), .ref vs, .int (nI ik), .int (nI th), .ref vt, .int (nI tl), .int (nI ta), .int yr, .int ys, .int yo, .int yf, .int ye, .ref vc, .ref vb]))] (fun (res : Int32) (u : Unit) => res = nI (n_tr x 16)) (fun (u : Unit) => [(mx, .inr (7, [.ref va, .ref vk, .ref vr, .int (nI rl), .ref vs, .int (nI ik), .int (nI 0), .ref vt, .int (nI tl), .int (nI ta), .int yr, .int ys, .int yo, .int yf, .int ye, .ref vc, .ref vb]))]) := by
  refine m_enterI (cc := cX7_traceOf) (maxL := 2) (ret := (some .int)) (by decide +kernel) rfl (Nat.le_of_ble_eq_true rfl) ?_
  intro p e s m below meth c A ls C0 hP hD hl
  obtain ⟨hx, hb, hr, hml, hts, hown, hlocks, hK, hA⟩ := id C0
  generalize hQ : MQ below _ _ s 0 0 A = Q
  have hS : va_S A s.heap s.heap [] := va_S.rf
  have hl : lv_has ls 2 [(0, .ref mx), (1, .int (nI x))] := hl
  refine lv_iload_n hx hb dX7_traceOf_0 rfl (lv_at hl 1 rfl) ?_
  refine m_callSi (As := [.int (nI x)]) (rest := []) C0 hl hP hD hS (c_X7_isNimber l D cY (nI x) ) (va_cwS 1 hts gX7_traceOf_X7_isNimber rfl rfl rfl (by decide +kernel) ⟨Nat.le_of_ble_eq_true rfl, Nat.le_of_ble_eq_true rfl⟩) dX7_traceOf_1 [] rfl rfl rfl (Nat.le_of_ble_eq_true rfl) (Nat.zero_le _) (Nat.zero_le _) (fun _ => rfl) (fun r2 u H1 locs hw hP hD hS => ?_)
  try dsimp only at hw
  obtain rfl := hw
  have hP : va_P D vwCl [(mx, .inr (7, [.ref va, .ref vk, .ref vr, .int (nI rl), .ref vs, .int (nI ik), .int (nI th), .ref vt, .int (nI tl), .int (nI ta), .int yr, .int ys, .int yo, .int yf, .int ye, .ref vc, .ref vb]))] H1 := hP
  have hD : va_D A [(mx, .inr (7, [.ref va, .ref vk, .ref vr, .int (nI rl), .ref vs, .int (nI ik), .int (nI th), .ref vt, .int (nI tl), .int (nI ta), .int yr, .int ys, .int yo, .int yf, .int ye, .ref vc, .ref vb]))] := hD
  refine lv_topi (nm_r (congrArg nI (if_pos (m_isN_of hxx))) ?_)
  refine lv_if_eq (tgt := 18) hx hb dX7_traceOf_4 (by decide) (fun c4 => ?_) (fun c4 => ?_)
  · exact absurd c4 (by decide)
  · refine lv_aload_n hx hb dX7_traceOf_7 rfl (lv_at hl 0 rfl) ?_
    refine lv_iload_n hx hb dX7_traceOf_8 rfl (lv_at hl 1 rfl) ?_
    refine m_callSi (As := [.int (nI x)]) (rest := [.ref mx]) C0 hl hP hD hS (c_X7_trace l D cY x (by first | assumption | omega | exact nm_lt _ _ | exact np_lt _ _ | decide)) (va_cwS 1 hts gX7_traceOf_X7_trace rfl rfl rfl (by decide +kernel) ⟨Nat.le_of_ble_eq_true rfl, Nat.le_of_ble_eq_true rfl⟩) dX7_traceOf_9 [] rfl rfl rfl (Nat.le_of_ble_eq_true rfl) (Nat.zero_le _) (Nat.zero_le _) (fun _ => rfl) (fun r4 u H3 locs hw hP hD hS => ?_)
    try dsimp only at hw
    obtain rfl := hw
    have hP : va_P D vwCl [(mx, .inr (7, [.ref va, .ref vk, .ref vr, .int (nI rl), .ref vs, .int (nI ik), .int (nI th), .ref vt, .int (nI tl), .int (nI ta), .int yr, .int ys, .int yo, .int yf, .int ye, .ref vc, .ref vb]))] H3 := hP
    have hD : va_D A [(mx, .inr (7, [.ref va, .ref vk, .ref vr, .int (nI rl), .ref vs, .int (nI ik), .int (nI th), .ref vt, .int (nI tl), .int (nI ta), .int yr, .int ys, .int yo, .int yf, .int ye, .ref vc, .ref vb]))] := hD
    refine m_callVi (As := [.int (nI (n_tr x 16))]) (rest := []) C0 hl hP hD hS (c_X7_told l D cY mx va vk vr vs vt vc vb rl ik th tl ta yr ys yo yf ye (nI (n_tr x 16)) ) (cwV 1 hts gX7_traceOf_X7_told rfl rfl rfl (by decide +kernel) ⟨Nat.le_of_ble_eq_true rfl, Nat.le_of_ble_eq_true rfl⟩) dX7_traceOf_12 [0] rfl rfl 0 rfl rfl rfl rfl (Nat.le_of_ble_eq_true rfl) (Nat.zero_le _) (Nat.zero_le _) (fun _ => rfl) (fun r6 u H5 locs hw hP hD hS => ?_)
    try dsimp only at hw
    obtain rfl := hw
    have hP : va_P D vwCl [(mx, .inr (7, [.ref va, .ref vk, .ref vr, .int (nI rl), .ref vs, .int (nI ik), .int (nI 0), .ref vt, .int (nI tl), .int (nI ta), .int yr, .int ys, .int yo, .int yf, .int ye, .ref vc, .ref vb]))] H5 := hP
    have hD : va_D A [(mx, .inr (7, [.ref va, .ref vk, .ref vr, .int (nI rl), .ref vs, .int (nI ik), .int (nI 0), .ref vt, .int (nI tl), .int (nI ta), .int yr, .int ys, .int yo, .int yf, .int ye, .ref vc, .ref vb]))] := hD
    refine lv_goto (tgt := 23) hx hb dX7_traceOf_15 (by decide) ?_
    subst hQ
    exact m_iret C0 hS dX7_traceOf_23 (u := ()) hP (by first | trivial | rfl | omega)
set_option maxHeartbeats 4000000 in
set_option maxRecDepth 100000 in
theorem c_X7_orderByPowers_f1 (l : Launch) (D : va_G) (cY : Nat → ClassId) (mx va vk vr vs vt vc vb : Nat) (rl ik th tl ta : Nat) (yr ys yo yf ye : Int32) (x : Int32) (hn : ¬ m_inI x 0 255) : m_Mi l yX7_orderByPowers wsX7_orderByPowers 1 25 D cY [.ref mx, .int x] [(mx, .inr (7, [.ref va, .ref vk, .ref vr, .int (nI rl), .ref vs, .int (nI ik), .int (nI th), .ref vt, .int (nI tl), .int (nI ta), .int yr, .int ys, .int yo, .int yf, .int ye, .ref vc, .ref vb]))] (fun (res : Int32) (u : Unit) => res = nI 0) (fun (u : Unit) => [(mx, .inr (7, [.ref va, .ref vk, .ref vr, .int (nI rl), .ref vs, .int (nI ik), .int (nI 1), .ref vt, .int (nI tl), .int (nI ta), .int yr, .int ys, .int yo, .int yf, .int ye, .ref vc, .ref vb]))]) := by
  refine m_enterI (cc := cX7_orderByPowers) (maxL := 2) (ret := (some .int)) (by decide +kernel) rfl (Nat.le_of_ble_eq_true rfl) ?_
  intro p e s m below meth c A ls C0 hP hD hl
  obtain ⟨hx, hb, hr, hml, hts, hown, hlocks, hK, hA⟩ := id C0
  generalize hQ : MQ below _ _ s 0 0 A = Q
  have hS : va_S A s.heap s.heap [] := va_S.rf
  have hl : lv_has ls 2 [(0, .ref mx), (1, .int x)] := hl
  have hwd0 := hts (.constantLong RX7 159 (255)) (by decide +kernel)
  refine lv_iload_n hx hb dX7_orderByPowers_0 rfl (lv_at hl 1 rfl) ?_
  refine lv_i2l (v := Int32.toInt64 x) hx hb dX7_orderByPowers_1 rfl ?_
  refine lv_lconst (v := 0) hx hb dX7_orderByPowers_2 (by decide) ?_
  refine lv_topl (nm_r (show ((0 : Int64)) = Int32.toInt64 (0 : Int32) from by decide) ?_)
  refine lv_ldc2 hx hb hown hwd0 dX7_orderByPowers_3 ?_
  refine lv_topl (nm_r (show ((255 : Int64)) = Int32.toInt64 (255 : Int32) from by decide) ?_)
  refine m_callSi (As := [.long (Int32.toInt64 x), .long (Int32.toInt64 (0 : Int32)), .long (Int32.toInt64 (255 : Int32))]) (rest := []) C0 hl hP hD hS (c_X7_in l D cY x (0 : Int32) (255 : Int32) ) (va_cwS 3 hts gX7_orderByPowers_X7_in rfl rfl rfl (by decide +kernel) ⟨Nat.le_of_ble_eq_true rfl, Nat.le_of_ble_eq_true rfl⟩) dX7_orderByPowers_6 [] rfl rfl rfl (Nat.le_of_ble_eq_true rfl) (Nat.zero_le _) (Nat.zero_le _) (fun _ => rfl) (fun r2 u H1 locs hw hP hD hS => ?_)
  try dsimp only at hw
  obtain rfl := hw
  have hP : va_P D vwCl [(mx, .inr (7, [.ref va, .ref vk, .ref vr, .int (nI rl), .ref vs, .int (nI ik), .int (nI th), .ref vt, .int (nI tl), .int (nI ta), .int yr, .int ys, .int yo, .int yf, .int ye, .ref vc, .ref vb]))] H1 := hP
  have hD : va_D A [(mx, .inr (7, [.ref va, .ref vk, .ref vr, .int (nI rl), .ref vs, .int (nI ik), .int (nI th), .ref vt, .int (nI tl), .int (nI ta), .int yr, .int ys, .int yo, .int yf, .int ye, .ref vc, .ref vb]))] := hD
  refine lv_topi (nm_r (congrArg nI (if_neg (hn))) ?_)
  refine lv_if_eq (tgt := 23) hx hb dX7_orderByPowers_9 (by decide) (fun c9 => ?_) (fun c9 => ?_)
  · refine lv_aload_n hx hb dX7_orderByPowers_23 rfl (lv_at hl 0 rfl) ?_
    refine lv_iconst (v := nI 1) hx hb dX7_orderByPowers_24 (by decide) ?_
    refine m_callVi (As := [.int (nI 1)]) (rest := []) C0 hl hP hD hS (c_X7_fails l D cY mx va vk vr vs vt vc vb rl ik th tl ta yr ys yo yf ye 1 ) (cwV 1 hts gX7_orderByPowers_X7_fails rfl rfl rfl (by decide +kernel) ⟨Nat.le_of_ble_eq_true rfl, Nat.le_of_ble_eq_true rfl⟩) dX7_orderByPowers_25 [0] rfl rfl 0 rfl rfl rfl rfl (Nat.le_of_ble_eq_true rfl) (Nat.zero_le _) (Nat.zero_le _) (fun _ => rfl) (fun r4 u H3 locs hw hP hD hS => ?_)
    try dsimp only at hw
    obtain rfl := hw
    have hP : va_P D vwCl [(mx, .inr (7, [.ref va, .ref vk, .ref vr, .int (nI rl), .ref vs, .int (nI ik), .int (nI 1), .ref vt, .int (nI tl), .int (nI ta), .int yr, .int ys, .int yo, .int yf, .int ye, .ref vc, .ref vb]))] H3 := hP
    have hD : va_D A [(mx, .inr (7, [.ref va, .ref vk, .ref vr, .int (nI rl), .ref vs, .int (nI ik), .int (nI 1), .ref vt, .int (nI tl), .int (nI ta), .int yr, .int ys, .int yo, .int yf, .int ye, .ref vc, .ref vb]))] := hD
    subst hQ
    exact m_iret C0 hS dX7_orderByPowers_28 (u := ()) hP (by first | trivial | rfl | omega)
  · exact absurd c9 (by decide)
set_option maxHeartbeats 4000000 in
set_option maxRecDepth 100000 in
theorem c_X7_orderByPowers_ok (l : Launch) (D : va_G) (cY : Nat → ClassId) (mx va vk vr vs vt vc vb : Nat) (rl ik th tl ta : Nat) (yr ys yo yf ye : Int32) (x : Nat) (hxx : x < 256) : m_Mi l yX7_orderByPowers wsX7_orderByPowers 7 162 D cY [.ref mx, .int (nI x)] [(mx, .inr (7, [.ref va, .ref vk, .ref vr, .int (nI rl), .ref vs, .int (nI ik), .int (nI th), .ref vt, .int (nI tl), .int (nI ta), .int yr, .int ys, .int yo, .int yf, .int ye, .ref vc, .ref vb]))] (fun (res : Int32) (u : Unit) => res = n_ord x) (fun (u : Unit) => [(mx, .inr (7, [.ref va, .ref vk, .ref vr, .int (nI rl), .ref vs, .int (nI ik), .int (nI 0), .ref vt, .int (nI tl), .int (nI ta), .int yr, .int ys, .int yo, .int yf, .int ye, .ref vc, .ref vb]))]) := by
  refine m_enterI (cc := cX7_orderByPowers) (maxL := 2) (ret := (some .int)) (by decide +kernel) rfl (Nat.le_of_ble_eq_true rfl) ?_
  intro p e s m below meth c A ls C0 hP hD hl
  obtain ⟨hx, hb, hr, hml, hts, hown, hlocks, hK, hA⟩ := id C0
  generalize hQ : MQ below _ _ s 0 0 A = Q
  have hS : va_S A s.heap s.heap [] := va_S.rf
  have hl : lv_has ls 2 [(0, .ref mx), (1, .int (nI x))] := hl
  have hwd0 := hts (.constantLong RX7 159 (255)) (by decide +kernel)
  refine lv_iload_n hx hb dX7_orderByPowers_0 rfl (lv_at hl 1 rfl) ?_
  refine lv_i2l (v := Int32.toInt64 (nI x)) hx hb dX7_orderByPowers_1 rfl ?_
  refine lv_lconst (v := 0) hx hb dX7_orderByPowers_2 (by decide) ?_
  refine lv_topl (nm_r (show ((0 : Int64)) = Int32.toInt64 (0 : Int32) from by decide) ?_)
  refine lv_ldc2 hx hb hown hwd0 dX7_orderByPowers_3 ?_
  refine lv_topl (nm_r (show ((255 : Int64)) = Int32.toInt64 (255 : Int32) from by decide) ?_)
  refine m_callSi (As := [.long (Int32.toInt64 (nI x)), .long (Int32.toInt64 (0 : Int32)), .long (Int32.toInt64 (255 : Int32))]) (rest := []) C0 hl hP hD hS (c_X7_in l D cY (nI x) (0 : Int32) (255 : Int32) ) (va_cwS 3 hts gX7_orderByPowers_X7_in rfl rfl rfl (by decide +kernel) ⟨Nat.le_of_ble_eq_true rfl, Nat.le_of_ble_eq_true rfl⟩) dX7_orderByPowers_6 [] rfl rfl rfl (Nat.le_of_ble_eq_true rfl) (Nat.zero_le _) (Nat.zero_le _) (fun _ => rfl) (fun r2 u H1 locs hw hP hD hS => ?_)
  try dsimp only at hw
  obtain rfl := hw
  have hP : va_P D vwCl [(mx, .inr (7, [.ref va, .ref vk, .ref vr, .int (nI rl), .ref vs, .int (nI ik), .int (nI th), .ref vt, .int (nI tl), .int (nI ta), .int yr, .int ys, .int yo, .int yf, .int ye, .ref vc, .ref vb]))] H1 := hP
  have hD : va_D A [(mx, .inr (7, [.ref va, .ref vk, .ref vr, .int (nI rl), .ref vs, .int (nI ik), .int (nI th), .ref vt, .int (nI tl), .int (nI ta), .int yr, .int ys, .int yo, .int yf, .int ye, .ref vc, .ref vb]))] := hD
  refine lv_topi (nm_r (congrArg nI (if_pos (⟨(nI_leI (a := 0) (b := x) (by decide) (by omega)).mpr (by omega), (nI_leI (a := x) (b := 255) (by omega) (by decide)).mpr (by omega)⟩))) ?_)
  refine lv_if_eq (tgt := 23) hx hb dX7_orderByPowers_9 (by decide) (fun c9 => ?_) (fun c9 => ?_)
  · exact absurd c9 (by decide)
  · refine lv_aload_n hx hb dX7_orderByPowers_12 rfl (lv_at hl 0 rfl) ?_
    refine lv_iload_n hx hb dX7_orderByPowers_13 rfl (lv_at hl 1 rfl) ?_
    refine m_callSi (As := [.int (nI x)]) (rest := [.ref mx]) C0 hl hP hD hS (c_X7_order l D cY x (by first | assumption | omega | exact nm_lt _ _ | exact np_lt _ _ | decide)) (va_cwS 1 hts gX7_orderByPowers_X7_order rfl rfl rfl (by decide +kernel) ⟨Nat.le_of_ble_eq_true rfl, Nat.le_of_ble_eq_true rfl⟩) dX7_orderByPowers_14 [] rfl rfl rfl (Nat.le_of_ble_eq_true rfl) (Nat.zero_le _) (Nat.zero_le _) (fun _ => rfl) (fun r4 u H3 locs hw hP hD hS => ?_)
    try dsimp only at hw
    obtain rfl := hw
    have hP : va_P D vwCl [(mx, .inr (7, [.ref va, .ref vk, .ref vr, .int (nI rl), .ref vs, .int (nI ik), .int (nI th), .ref vt, .int (nI tl), .int (nI ta), .int yr, .int ys, .int yo, .int yf, .int ye, .ref vc, .ref vb]))] H3 := hP
    have hD : va_D A [(mx, .inr (7, [.ref va, .ref vk, .ref vr, .int (nI rl), .ref vs, .int (nI ik), .int (nI th), .ref vt, .int (nI tl), .int (nI ta), .int yr, .int ys, .int yo, .int yf, .int ye, .ref vc, .ref vb]))] := hD
    refine m_callVi (As := [.int (n_ord x)]) (rest := []) C0 hl hP hD hS (c_X7_told l D cY mx va vk vr vs vt vc vb rl ik th tl ta yr ys yo yf ye (n_ord x) ) (cwV 1 hts gX7_orderByPowers_X7_told rfl rfl rfl (by decide +kernel) ⟨Nat.le_of_ble_eq_true rfl, Nat.le_of_ble_eq_true rfl⟩) dX7_orderByPowers_17 [0] rfl rfl 0 rfl rfl rfl rfl (Nat.le_of_ble_eq_true rfl) (Nat.zero_le _) (Nat.zero_le _) (fun _ => rfl) (fun r6 u H5 locs hw hP hD hS => ?_)
    try dsimp only at hw
    obtain rfl := hw
    have hP : va_P D vwCl [(mx, .inr (7, [.ref va, .ref vk, .ref vr, .int (nI rl), .ref vs, .int (nI ik), .int (nI 0), .ref vt, .int (nI tl), .int (nI ta), .int yr, .int ys, .int yo, .int yf, .int ye, .ref vc, .ref vb]))] H5 := hP
    have hD : va_D A [(mx, .inr (7, [.ref va, .ref vk, .ref vr, .int (nI rl), .ref vs, .int (nI ik), .int (nI 0), .ref vt, .int (nI tl), .int (nI ta), .int yr, .int ys, .int yo, .int yf, .int ye, .ref vc, .ref vb]))] := hD
    refine lv_goto (tgt := 28) hx hb dX7_orderByPowers_20 (by decide) ?_
    subst hQ
    exact m_iret C0 hS dX7_orderByPowers_28 (u := ()) hP (by first | trivial | rfl | omega)
set_option maxHeartbeats 4000000 in
set_option maxRecDepth 100000 in
theorem c_X7_products (l : Launch) (D : va_G) (cY : Nat → ClassId) (mx va vk vr vs vt vc vb : Nat) (rl ik th tl ta : Nat) (yr ys yo yf ye : Int32) (f : Nat → Nat) (cnt : Nat)  : m_Mi l yX7_products wsX7_products 1 21 D cY [.ref mx] [(mx, .inr (7, [.ref va, .ref vk, .ref vr, .int (nI rl), .ref vs, .int (nI ik), .int (nI th), .ref vt, .int (nI tl), .int (nI ta), .int yr, .int ys, .int yo, .int yf, .int ye, .ref vc, .ref vb])), (va, .inl (cY 0, 9, .inl (m_nf (m_all f cnt))))] (fun (res : Int32) (u : Unit) => res = nI cnt) (fun (u : Unit) => [(mx, .inr (7, [.ref va, .ref vk, .ref vr, .int (nI rl), .ref vs, .int (nI ik), .int (nI 0), .ref vt, .int (nI tl), .int (nI ta), .int yr, .int ys, .int yo, .int yf, .int ye, .ref vc, .ref vb])), (va, .inl (cY 0, 9, .inl (m_nf (m_all f cnt))))]) := by
  refine m_enterI (cc := cX7_products) (maxL := 1) (ret := (some .int)) (by decide +kernel) rfl (Nat.le_of_ble_eq_true rfl) ?_
  intro p e s m below meth c A ls C0 hP hD hl
  obtain ⟨hx, hb, hr, hml, hts, hown, hlocks, hK, hA⟩ := id C0
  generalize hQ : MQ below _ _ s 0 0 A = Q
  have hS : va_S A s.heap s.heap [] := va_S.rf
  have hl : lv_has ls 1 [(0, .ref mx)] := hl
  have hwd0 := hts (.fieldLink RX7 7 "NimberFieldModel" "all" "[I") (by decide +kernel)
  have hwd1 := (show ∀ w ∈ u_ws RX7 TX7 17, w ∈ wsX7_products from by decide +kernel)
  refine lv_aload_n hx hb dX7_products_0 rfl (lv_at hl 0 rfl) ?_
  refine lv_aload_n hx hb dX7_products_1 rfl (lv_at hl 0 rfl) ?_
  refine va_get (D := D) (ci := 7) (v := .ref va) (C := RX7) (T := TX7) (N := 17) hx hb hts hwd1 hown hK hP 0 rfl rfl 0 (by decide) hwd0 (fun _ h9 => h9) rfl dX7_products_2 ?_
  refine lv_bipush (v := nI 8) hx hb dX7_products_5 (by decide) ?_
  refine va_iald hx hb hK hP 1 0 rfl rfl (m_in (n := 8) (by first | assumption | omega) (by decide)) dX7_products_7 ?_
  refine lv_topi (nm_r (m_ldn (g := m_all f cnt) (n := 8) (by omega)) ?_)
  refine lv_topi (nm_r (congrArg nI (m_all8 _ _)) ?_)
  refine m_callVi (As := [.int (nI cnt)]) (rest := []) C0 hl hP hD hS (c_X7_told l D cY mx va vk vr vs vt vc vb rl ik th tl ta yr ys yo yf ye (nI cnt) ) (cwV 1 hts gX7_products_X7_told rfl rfl rfl (by decide +kernel) ⟨Nat.le_of_ble_eq_true rfl, Nat.le_of_ble_eq_true rfl⟩) dX7_products_8 [0] rfl rfl 0 rfl rfl rfl rfl (Nat.le_of_ble_eq_true rfl) (Nat.zero_le _) (Nat.zero_le _) (fun _ => rfl) (fun r2 u H1 locs hw hP hD hS => ?_)
  try dsimp only at hw
  obtain rfl := hw
  have hP : va_P D vwCl [(mx, .inr (7, [.ref va, .ref vk, .ref vr, .int (nI rl), .ref vs, .int (nI ik), .int (nI 0), .ref vt, .int (nI tl), .int (nI ta), .int yr, .int ys, .int yo, .int yf, .int ye, .ref vc, .ref vb])), (va, .inl (cY 0, 9, .inl (m_nf (m_all f cnt))))] H1 := hP
  have hD : va_D A [(mx, .inr (7, [.ref va, .ref vk, .ref vr, .int (nI rl), .ref vs, .int (nI ik), .int (nI 0), .ref vt, .int (nI tl), .int (nI ta), .int yr, .int ys, .int yo, .int yf, .int ye, .ref vc, .ref vb])), (va, .inl (cY 0, 9, .inl (m_nf (m_all f cnt))))] := hD
  subst hQ
  exact m_iret C0 hS dX7_products_11 (u := ()) hP (by first | trivial | rfl | omega)
set_option maxHeartbeats 4000000 in
set_option maxRecDepth 100000 in
theorem c_X7_recordedStates (l : Launch) (D : va_G) (cY : Nat → ClassId) (mx va vk vr vs vt vc vb : Nat) (rl ik th tl ta : Nat) (yr ys yo yf ye : Int32)  : m_Mi l yX7_recordedStates wsX7_recordedStates 1 21 D cY [.ref mx] [(mx, .inr (7, [.ref va, .ref vk, .ref vr, .int (nI rl), .ref vs, .int (nI ik), .int (nI th), .ref vt, .int (nI tl), .int (nI ta), .int yr, .int ys, .int yo, .int yf, .int ye, .ref vc, .ref vb]))] (fun (res : Int32) (u : Unit) => res = nI rl) (fun (u : Unit) => [(mx, .inr (7, [.ref va, .ref vk, .ref vr, .int (nI rl), .ref vs, .int (nI ik), .int (nI 0), .ref vt, .int (nI tl), .int (nI ta), .int yr, .int ys, .int yo, .int yf, .int ye, .ref vc, .ref vb]))]) := by
  refine m_enterI (cc := cX7_recordedStates) (maxL := 1) (ret := (some .int)) (by decide +kernel) rfl (Nat.le_of_ble_eq_true rfl) ?_
  intro p e s m below meth c A ls C0 hP hD hl
  obtain ⟨hx, hb, hr, hml, hts, hown, hlocks, hK, hA⟩ := id C0
  generalize hQ : MQ below _ _ s 0 0 A = Q
  have hS : va_S A s.heap s.heap [] := va_S.rf
  have hl : lv_has ls 1 [(0, .ref mx)] := hl
  have hwd0 := hts (.fieldLink RX7 35 "NimberFieldModel" "recordedLong" "I") (by decide +kernel)
  have hwd1 := (show ∀ w ∈ u_ws RX7 TX7 17, w ∈ wsX7_recordedStates from by decide +kernel)
  refine lv_aload_n hx hb dX7_recordedStates_0 rfl (lv_at hl 0 rfl) ?_
  refine lv_aload_n hx hb dX7_recordedStates_1 rfl (lv_at hl 0 rfl) ?_
  refine va_get (D := D) (ci := 7) (v := .int (nI rl)) (C := RX7) (T := TX7) (N := 17) hx hb hts hwd1 hown hK hP 0 rfl rfl 3 (by decide) hwd0 (fun _ h9 => h9) rfl dX7_recordedStates_2 ?_
  refine m_callVi (As := [.int (nI rl)]) (rest := []) C0 hl hP hD hS (c_X7_told l D cY mx va vk vr vs vt vc vb rl ik th tl ta yr ys yo yf ye (nI rl) ) (cwV 1 hts gX7_recordedStates_X7_told rfl rfl rfl (by decide +kernel) ⟨Nat.le_of_ble_eq_true rfl, Nat.le_of_ble_eq_true rfl⟩) dX7_recordedStates_5 [0] rfl rfl 0 rfl rfl rfl rfl (Nat.le_of_ble_eq_true rfl) (Nat.zero_le _) (Nat.zero_le _) (fun _ => rfl) (fun r2 u H1 locs hw hP hD hS => ?_)
  try dsimp only at hw
  obtain rfl := hw
  have hP : va_P D vwCl [(mx, .inr (7, [.ref va, .ref vk, .ref vr, .int (nI rl), .ref vs, .int (nI ik), .int (nI 0), .ref vt, .int (nI tl), .int (nI ta), .int yr, .int ys, .int yo, .int yf, .int ye, .ref vc, .ref vb]))] H1 := hP
  have hD : va_D A [(mx, .inr (7, [.ref va, .ref vk, .ref vr, .int (nI rl), .ref vs, .int (nI ik), .int (nI 0), .ref vt, .int (nI tl), .int (nI ta), .int yr, .int ys, .int yo, .int yf, .int ye, .ref vc, .ref vb]))] := hD
  subst hQ
  exact m_iret C0 hS dX7_recordedStates_8 (u := ()) hP (by first | trivial | rfl | omega)
