set_option maxHeartbeats 4000000 in
set_option maxRecDepth 100000 in
theorem c_X2_orderByQuotients (l : Launch) (hfl : l.stackTraces = false) (D : va_G) (cY : Nat → ClassId) (eS : Nat → Nat) (eO : Nat) (a b : Nat) (bp : Nat → Nat) (x : Nat) (hxx : x < 65536) (hB : n_bp bp) : m_Me l yX2_orderByQuotients wsX2_orderByQuotients 2 50 0 0 D cY eS eO [.ref a, .int (nI x)] [(a, .inr (2, [.ref b])), (b, .inl (cY 0, 256, .inl (m_nf bp)))] (fun (res : Int32) (u : Unit) => res = n_ord x) (fun (u : Unit) => [(a, .inr (2, [.ref b])), (b, .inl (cY 0, 256, .inl (m_nf bp)))]) := by
  refine m_enterE (cc := cX2_orderByQuotients) (maxL := 7) (ret := (some .int)) (by decide +kernel) rfl (Nat.le_of_ble_eq_true rfl) ?_
  intro p e s m below meth c A ls C0 hE hP hD hl
  obtain ⟨hx, hb, hr, hml, hts, hown, hlocks, hK, hA⟩ := id C0
  obtain ⟨hz1, hz2, ⟨hcIO, hcIA, hcIS⟩, hdcl, ⟨hs0, hs1, hs2, hs3, hs4, hs5, hs6, hs7⟩, ⟨hn1, hn2⟩, ⟨hl0, hl1, hl2, hl3, hl4⟩, hzO, htO⟩ := id hE
  generalize hQ : MQ below _ _ s 0 0 A = Q
  have hS : va_S A s.heap s.heap [] := va_S.rf
  have hl : lv_has ls 7 [(0, .ref a), (1, .int (nI x))] := hl
  have hwd0 := hts (.constant RX2 39 (65535)) (by decide +kernel)
  have hwd1 := hts (.fieldLink RX2 40 "NimberField$Nimbers" "ORDER_DIVISORS" "[I") (by decide +kernel)
  refine lv_iload_n hx hb dX2_orderByQuotients_0 rfl (lv_at hl 1 rfl) ?_
  refine lv_if_ne (tgt := 6) hx hb dX2_orderByQuotients_1 (by decide) (fun c1 => ?_) (fun c1 => ?_)
  · have c1 : ¬ (x = 0) := fun qq9 => c1 ((nI_eq (a := x) (b := 0) (by first | omega | exact Nat.lt_of_le_of_lt Nat.and_le_right (by decide) | exact Nat.lt_trans (nm_lt _ _) (by decide) | exact Nat.lt_trans (np_lt _ _) (by decide) | exact Nat.lt_trans (p_at_lt htx) (by decide)) (by first | omega | exact Nat.lt_of_le_of_lt Nat.and_le_right (by decide) | exact Nat.lt_trans (nm_lt _ _) (by decide) | exact Nat.lt_trans (np_lt _ _) (by decide) | exact Nat.lt_trans (p_at_lt htx) (by decide))).mpr qq9)
    refine lv_ldc hx hb hown hwd0 dX2_orderByQuotients_6 ?_
    refine lv_topi (nm_r (show ((65535 : Int32)) = nI 65535 from by decide) ?_)
    refine lv_istore_n (lv' := [(2, .int (nI 65535)), (0, .ref a), (1, .int (nI x))]) hx hb dX2_orderByQuotients_8 rfl hl (by decide) rfl (fun ls hl => ?_)
    refine va_gets hx hb hzO hS hown hwd1 (fun _ h => h) dX2_orderByQuotients_9 ?_
    refine lv_astore_n (lv' := [(3, .ref eO), (2, .int (nI 65535)), (0, .ref a), (1, .int (nI x))]) hx hb dX2_orderByQuotients_12 rfl hl (by decide) rfl (fun ls hl => ?_)
    refine lv_aload_n hx hb dX2_orderByQuotients_13 rfl (lv_at hl 0 rfl) ?_
    refine va_tlen hx hb htO hS (v := nI 4) rfl dX2_orderByQuotients_14 ?_
    refine lv_istore (lv' := [(4, .int (nI 4)), (3, .ref eO), (2, .int (nI 65535)), (0, .ref a), (1, .int (nI x))]) hx hb dX2_orderByQuotients_15 hl (by decide) rfl (fun ls hl => ?_)
    refine lv_iconst (v := nI 0) hx hb dX2_orderByQuotients_17 (by decide) ?_
    refine lv_istore (lv' := [(5, .int (nI 0)), (4, .int (nI 4)), (3, .ref eO), (2, .int (nI 65535)), (0, .ref a), (1, .int (nI x))]) hx hb dX2_orderByQuotients_18 hl (by decide) rfl (fun ls hl => ?_)
    refine lv_iload hx hb dX2_orderByQuotients_20 (lv_at hl 0 rfl) ?_
    refine lv_iload hx hb dX2_orderByQuotients_22 (lv_at hl 1 rfl) ?_
    refine lv_icmp_ge (tgt := 62) hx hb dX2_orderByQuotients_24 (by decide) (fun c24 => ?_) (fun c24 => ?_)
    · exact absurd c24 (by decide)
    · refine lv_aload_n hx hb dX2_orderByQuotients_27 rfl (lv_at hl 2 rfl) ?_
      refine lv_iload hx hb dX2_orderByQuotients_28 (lv_at hl 0 rfl) ?_
      refine va_ti hx hb htO hS (m_in (n := 0) (by decide) (by decide)) (v := .int (nI 3)) (by rw [nI_clamp (by decide)]; rfl) dX2_orderByQuotients_30 ?_
      refine lv_istore (lv' := [(6, .int (nI 3)), (5, .int (nI 0)), (4, .int (nI 4)), (3, .ref eO), (2, .int (nI 65535)), (0, .ref a), (1, .int (nI x))]) hx hb dX2_orderByQuotients_31 hl (by decide) rfl (fun ls hl => ?_)
      refine lv_iload hx hb dX2_orderByQuotients_33 (lv_at hl 0 rfl) ?_
      refine lv_if_le (tgt := 56) hx hb dX2_orderByQuotients_35 (by decide) (fun c35 => ?_) (fun c35 => ?_)
      · exact absurd c35 (by decide)
      · refine lv_aload_n hx hb dX2_orderByQuotients_38 rfl (lv_at hl 5 rfl) ?_
        refine lv_iload_n hx hb dX2_orderByQuotients_39 rfl (lv_at hl 6 rfl) ?_
        refine lv_iload_n hx hb dX2_orderByQuotients_40 rfl (lv_at hl 4 rfl) ?_
        refine lv_iload hx hb dX2_orderByQuotients_41 (lv_at hl 0 rfl) ?_
        refine lv_idiv hx hb dX2_orderByQuotients_43 (by decide) ?_
        refine lv_topi (nm_r (show _ = nI 21845 from by decide) ?_)
        refine m_callVi (As := [.int (nI x), .int (nI 21845)]) (rest := []) C0 hl hP hD hS (c_X2_raised l D cY a b bp x 21845 (by first | assumption | omega | exact nm_lt _ _ | exact np_lt _ _ | decide) (by first | assumption | omega | exact nm_lt _ _ | exact np_lt _ _ | decide) (by first | assumption | omega | exact nm_lt _ _ | exact np_lt _ _ | decide)) (cwV 2 hts gX2_orderByQuotients_X2_raised rfl rfl rfl (by decide +kernel) ⟨Nat.le_of_ble_eq_true rfl, Nat.le_of_ble_eq_true rfl⟩) dX2_orderByQuotients_44 [0, 1] rfl rfl 0 rfl rfl rfl rfl (Nat.le_of_ble_eq_true rfl) (Nat.zero_le _) (Nat.zero_le _) (fun _ => rfl) (fun r2 u H1 locs hw hP hD hS => ?_)
        try dsimp only at hw
        obtain rfl := hw
        have hP : va_P D vwCl [(a, .inr (2, [.ref b])), (b, .inl (cY 0, 256, .inl (m_nf bp)))] H1 := hP
        have hD : va_D A [(a, .inr (2, [.ref b])), (b, .inl (cY 0, 256, .inl (m_nf bp)))] := hD
        refine lv_iconst (v := nI 1) hx hb dX2_orderByQuotients_47 (by decide) ?_
        refine lv_icmp_ne (tgt := 56) hx hb dX2_orderByQuotients_48 (by decide) (fun c48 => ?_) (fun c48 => ?_)
        · have c48 : ¬ ((np x 21845) = 1) := fun qq9 => c48 ((nI_eq (a := (np x 21845)) (b := 1) (by first | omega | exact Nat.lt_of_le_of_lt Nat.and_le_right (by decide) | exact Nat.lt_trans (nm_lt _ _) (by decide) | exact Nat.lt_trans (np_lt _ _) (by decide) | exact Nat.lt_trans (p_at_lt htx) (by decide)) (by first | omega | exact Nat.lt_of_le_of_lt Nat.and_le_right (by decide) | exact Nat.lt_trans (nm_lt _ _) (by decide) | exact Nat.lt_trans (np_lt _ _) (by decide) | exact Nat.lt_trans (p_at_lt htx) (by decide))).mpr qq9)
          refine lv_iinc (v := nI 1) (lv' := [(5, .int (nI 1)), (6, .int (nI 3)), (4, .int (nI 4)), (3, .ref eO), (2, .int (nI 65535)), (0, .ref a), (1, .int (nI x))]) hx hb dX2_orderByQuotients_56 hl (k := 1) rfl (by decide) (by decide) rfl (fun ls hl => ?_)
          refine lv_goto (tgt := 20) hx hb dX2_orderByQuotients_59 (by decide) ?_
          refine lv_iload hx hb dX2_orderByQuotients_20 (lv_at hl 0 rfl) ?_
          refine lv_iload hx hb dX2_orderByQuotients_22 (lv_at hl 2 rfl) ?_
          refine lv_icmp_ge (tgt := 62) hx hb dX2_orderByQuotients_24 (by decide) (fun c24 => ?_) (fun c24 => ?_)
          · exact absurd c24 (by decide)
          · refine lv_aload_n hx hb dX2_orderByQuotients_27 rfl (lv_at hl 3 rfl) ?_
            refine lv_iload hx hb dX2_orderByQuotients_28 (lv_at hl 0 rfl) ?_
            refine va_ti hx hb htO hS (m_in (n := 1) (by decide) (by decide)) (v := .int (nI 5)) (by rw [nI_clamp (by decide)]; rfl) dX2_orderByQuotients_30 ?_
            refine lv_istore (lv' := [(6, .int (nI 5)), (5, .int (nI 1)), (4, .int (nI 4)), (3, .ref eO), (2, .int (nI 65535)), (0, .ref a), (1, .int (nI x))]) hx hb dX2_orderByQuotients_31 hl (by decide) rfl (fun ls hl => ?_)
            refine lv_iload hx hb dX2_orderByQuotients_33 (lv_at hl 0 rfl) ?_
            refine lv_if_le (tgt := 56) hx hb dX2_orderByQuotients_35 (by decide) (fun c35 => ?_) (fun c35 => ?_)
            · exact absurd c35 (by decide)
            · refine lv_aload_n hx hb dX2_orderByQuotients_38 rfl (lv_at hl 5 rfl) ?_
              refine lv_iload_n hx hb dX2_orderByQuotients_39 rfl (lv_at hl 6 rfl) ?_
              refine lv_iload_n hx hb dX2_orderByQuotients_40 rfl (lv_at hl 4 rfl) ?_
              refine lv_iload hx hb dX2_orderByQuotients_41 (lv_at hl 0 rfl) ?_
              refine lv_idiv hx hb dX2_orderByQuotients_43 (by decide) ?_
              refine lv_topi (nm_r (show _ = nI 13107 from by decide) ?_)
              refine m_callVi (As := [.int (nI x), .int (nI 13107)]) (rest := []) C0 hl hP hD hS (c_X2_raised l D cY a b bp x 13107 (by first | assumption | omega | exact nm_lt _ _ | exact np_lt _ _ | decide) (by first | assumption | omega | exact nm_lt _ _ | exact np_lt _ _ | decide) (by first | assumption | omega | exact nm_lt _ _ | exact np_lt _ _ | decide)) (cwV 2 hts gX2_orderByQuotients_X2_raised rfl rfl rfl (by decide +kernel) ⟨Nat.le_of_ble_eq_true rfl, Nat.le_of_ble_eq_true rfl⟩) dX2_orderByQuotients_44 [0, 1] rfl rfl 0 rfl rfl rfl rfl (Nat.le_of_ble_eq_true rfl) (Nat.zero_le _) (Nat.zero_le _) (fun _ => rfl) (fun r4 u H3 locs hw hP hD hS => ?_)
              try dsimp only at hw
              obtain rfl := hw
              have hP : va_P D vwCl [(a, .inr (2, [.ref b])), (b, .inl (cY 0, 256, .inl (m_nf bp)))] H3 := hP
              have hD : va_D A [(a, .inr (2, [.ref b])), (b, .inl (cY 0, 256, .inl (m_nf bp)))] := hD
              refine lv_iconst (v := nI 1) hx hb dX2_orderByQuotients_47 (by decide) ?_
              refine lv_icmp_ne (tgt := 56) hx hb dX2_orderByQuotients_48 (by decide) (fun c48 => ?_) (fun c48 => ?_)
              · have c48 : ¬ ((np x 13107) = 1) := fun qq9 => c48 ((nI_eq (a := (np x 13107)) (b := 1) (by first | omega | exact Nat.lt_of_le_of_lt Nat.and_le_right (by decide) | exact Nat.lt_trans (nm_lt _ _) (by decide) | exact Nat.lt_trans (np_lt _ _) (by decide) | exact Nat.lt_trans (p_at_lt htx) (by decide)) (by first | omega | exact Nat.lt_of_le_of_lt Nat.and_le_right (by decide) | exact Nat.lt_trans (nm_lt _ _) (by decide) | exact Nat.lt_trans (np_lt _ _) (by decide) | exact Nat.lt_trans (p_at_lt htx) (by decide))).mpr qq9)
                refine lv_iinc (v := nI 2) (lv' := [(5, .int (nI 2)), (6, .int (nI 5)), (4, .int (nI 4)), (3, .ref eO), (2, .int (nI 65535)), (0, .ref a), (1, .int (nI x))]) hx hb dX2_orderByQuotients_56 hl (k := 1) rfl (by decide) (by decide) rfl (fun ls hl => ?_)
                refine lv_goto (tgt := 20) hx hb dX2_orderByQuotients_59 (by decide) ?_
                refine lv_iload hx hb dX2_orderByQuotients_20 (lv_at hl 0 rfl) ?_
                refine lv_iload hx hb dX2_orderByQuotients_22 (lv_at hl 2 rfl) ?_
                refine lv_icmp_ge (tgt := 62) hx hb dX2_orderByQuotients_24 (by decide) (fun c24 => ?_) (fun c24 => ?_)
                · exact absurd c24 (by decide)
                · refine lv_aload_n hx hb dX2_orderByQuotients_27 rfl (lv_at hl 3 rfl) ?_
                  refine lv_iload hx hb dX2_orderByQuotients_28 (lv_at hl 0 rfl) ?_
                  refine va_ti hx hb htO hS (m_in (n := 2) (by decide) (by decide)) (v := .int (nI 17)) (by rw [nI_clamp (by decide)]; rfl) dX2_orderByQuotients_30 ?_
                  refine lv_istore (lv' := [(6, .int (nI 17)), (5, .int (nI 2)), (4, .int (nI 4)), (3, .ref eO), (2, .int (nI 65535)), (0, .ref a), (1, .int (nI x))]) hx hb dX2_orderByQuotients_31 hl (by decide) rfl (fun ls hl => ?_)
                  refine lv_iload hx hb dX2_orderByQuotients_33 (lv_at hl 0 rfl) ?_
                  refine lv_if_le (tgt := 56) hx hb dX2_orderByQuotients_35 (by decide) (fun c35 => ?_) (fun c35 => ?_)
                  · exact absurd c35 (by decide)
                  · refine lv_aload_n hx hb dX2_orderByQuotients_38 rfl (lv_at hl 5 rfl) ?_
                    refine lv_iload_n hx hb dX2_orderByQuotients_39 rfl (lv_at hl 6 rfl) ?_
                    refine lv_iload_n hx hb dX2_orderByQuotients_40 rfl (lv_at hl 4 rfl) ?_
                    refine lv_iload hx hb dX2_orderByQuotients_41 (lv_at hl 0 rfl) ?_
                    refine lv_idiv hx hb dX2_orderByQuotients_43 (by decide) ?_
                    refine lv_topi (nm_r (show _ = nI 3855 from by decide) ?_)
                    refine m_callVi (As := [.int (nI x), .int (nI 3855)]) (rest := []) C0 hl hP hD hS (c_X2_raised l D cY a b bp x 3855 (by first | assumption | omega | exact nm_lt _ _ | exact np_lt _ _ | decide) (by first | assumption | omega | exact nm_lt _ _ | exact np_lt _ _ | decide) (by first | assumption | omega | exact nm_lt _ _ | exact np_lt _ _ | decide)) (cwV 2 hts gX2_orderByQuotients_X2_raised rfl rfl rfl (by decide +kernel) ⟨Nat.le_of_ble_eq_true rfl, Nat.le_of_ble_eq_true rfl⟩) dX2_orderByQuotients_44 [0, 1] rfl rfl 0 rfl rfl rfl rfl (Nat.le_of_ble_eq_true rfl) (Nat.zero_le _) (Nat.zero_le _) (fun _ => rfl) (fun r6 u H5 locs hw hP hD hS => ?_)
                    try dsimp only at hw
                    obtain rfl := hw
                    have hP : va_P D vwCl [(a, .inr (2, [.ref b])), (b, .inl (cY 0, 256, .inl (m_nf bp)))] H5 := hP
                    have hD : va_D A [(a, .inr (2, [.ref b])), (b, .inl (cY 0, 256, .inl (m_nf bp)))] := hD
                    refine lv_iconst (v := nI 1) hx hb dX2_orderByQuotients_47 (by decide) ?_
                    refine lv_icmp_ne (tgt := 56) hx hb dX2_orderByQuotients_48 (by decide) (fun c48 => ?_) (fun c48 => ?_)
                    · have c48 : ¬ ((np x 3855) = 1) := fun qq9 => c48 ((nI_eq (a := (np x 3855)) (b := 1) (by first | omega | exact Nat.lt_of_le_of_lt Nat.and_le_right (by decide) | exact Nat.lt_trans (nm_lt _ _) (by decide) | exact Nat.lt_trans (np_lt _ _) (by decide) | exact Nat.lt_trans (p_at_lt htx) (by decide)) (by first | omega | exact Nat.lt_of_le_of_lt Nat.and_le_right (by decide) | exact Nat.lt_trans (nm_lt _ _) (by decide) | exact Nat.lt_trans (np_lt _ _) (by decide) | exact Nat.lt_trans (p_at_lt htx) (by decide))).mpr qq9)
                      refine lv_iinc (v := nI 3) (lv' := [(5, .int (nI 3)), (6, .int (nI 17)), (4, .int (nI 4)), (3, .ref eO), (2, .int (nI 65535)), (0, .ref a), (1, .int (nI x))]) hx hb dX2_orderByQuotients_56 hl (k := 1) rfl (by decide) (by decide) rfl (fun ls hl => ?_)
                      refine lv_goto (tgt := 20) hx hb dX2_orderByQuotients_59 (by decide) ?_
                      refine lv_iload hx hb dX2_orderByQuotients_20 (lv_at hl 0 rfl) ?_
                      refine lv_iload hx hb dX2_orderByQuotients_22 (lv_at hl 2 rfl) ?_
                      refine lv_icmp_ge (tgt := 62) hx hb dX2_orderByQuotients_24 (by decide) (fun c24 => ?_) (fun c24 => ?_)
                      · exact absurd c24 (by decide)
                      · refine lv_aload_n hx hb dX2_orderByQuotients_27 rfl (lv_at hl 3 rfl) ?_
                        refine lv_iload hx hb dX2_orderByQuotients_28 (lv_at hl 0 rfl) ?_
                        refine va_ti hx hb htO hS (m_in (n := 3) (by decide) (by decide)) (v := .int (nI 257)) (by rw [nI_clamp (by decide)]; rfl) dX2_orderByQuotients_30 ?_
                        refine lv_istore (lv' := [(6, .int (nI 257)), (5, .int (nI 3)), (4, .int (nI 4)), (3, .ref eO), (2, .int (nI 65535)), (0, .ref a), (1, .int (nI x))]) hx hb dX2_orderByQuotients_31 hl (by decide) rfl (fun ls hl => ?_)
                        refine lv_iload hx hb dX2_orderByQuotients_33 (lv_at hl 0 rfl) ?_
                        refine lv_if_le (tgt := 56) hx hb dX2_orderByQuotients_35 (by decide) (fun c35 => ?_) (fun c35 => ?_)
                        · exact absurd c35 (by decide)
                        · refine lv_aload_n hx hb dX2_orderByQuotients_38 rfl (lv_at hl 5 rfl) ?_
                          refine lv_iload_n hx hb dX2_orderByQuotients_39 rfl (lv_at hl 6 rfl) ?_
                          refine lv_iload_n hx hb dX2_orderByQuotients_40 rfl (lv_at hl 4 rfl) ?_
                          refine lv_iload hx hb dX2_orderByQuotients_41 (lv_at hl 0 rfl) ?_
                          refine lv_idiv hx hb dX2_orderByQuotients_43 (by decide) ?_
                          refine lv_topi (nm_r (show _ = nI 255 from by decide) ?_)
                          refine m_callVi (As := [.int (nI x), .int (nI 255)]) (rest := []) C0 hl hP hD hS (c_X2_raised l D cY a b bp x 255 (by first | assumption | omega | exact nm_lt _ _ | exact np_lt _ _ | decide) (by first | assumption | omega | exact nm_lt _ _ | exact np_lt _ _ | decide) (by first | assumption | omega | exact nm_lt _ _ | exact np_lt _ _ | decide)) (cwV 2 hts gX2_orderByQuotients_X2_raised rfl rfl rfl (by decide +kernel) ⟨Nat.le_of_ble_eq_true rfl, Nat.le_of_ble_eq_true rfl⟩) dX2_orderByQuotients_44 [0, 1] rfl rfl 0 rfl rfl rfl rfl (Nat.le_of_ble_eq_true rfl) (Nat.zero_le _) (Nat.zero_le _) (fun _ => rfl) (fun r8 u H7 locs hw hP hD hS => ?_)
                          try dsimp only at hw
                          obtain rfl := hw
                          have hP : va_P D vwCl [(a, .inr (2, [.ref b])), (b, .inl (cY 0, 256, .inl (m_nf bp)))] H7 := hP
                          have hD : va_D A [(a, .inr (2, [.ref b])), (b, .inl (cY 0, 256, .inl (m_nf bp)))] := hD
                          refine lv_iconst (v := nI 1) hx hb dX2_orderByQuotients_47 (by decide) ?_
                          refine lv_icmp_ne (tgt := 56) hx hb dX2_orderByQuotients_48 (by decide) (fun c48 => ?_) (fun c48 => ?_)
                          · have c48 : ¬ ((np x 255) = 1) := fun qq9 => c48 ((nI_eq (a := (np x 255)) (b := 1) (by first | omega | exact Nat.lt_of_le_of_lt Nat.and_le_right (by decide) | exact Nat.lt_trans (nm_lt _ _) (by decide) | exact Nat.lt_trans (np_lt _ _) (by decide) | exact Nat.lt_trans (p_at_lt htx) (by decide)) (by first | omega | exact Nat.lt_of_le_of_lt Nat.and_le_right (by decide) | exact Nat.lt_trans (nm_lt _ _) (by decide) | exact Nat.lt_trans (np_lt _ _) (by decide) | exact Nat.lt_trans (p_at_lt htx) (by decide))).mpr qq9)
                            refine lv_iinc (v := nI 4) (lv' := [(5, .int (nI 4)), (6, .int (nI 257)), (4, .int (nI 4)), (3, .ref eO), (2, .int (nI 65535)), (0, .ref a), (1, .int (nI x))]) hx hb dX2_orderByQuotients_56 hl (k := 1) rfl (by decide) (by decide) rfl (fun ls hl => ?_)
                            refine lv_goto (tgt := 20) hx hb dX2_orderByQuotients_59 (by decide) ?_
                            refine lv_iload hx hb dX2_orderByQuotients_20 (lv_at hl 0 rfl) ?_
                            refine lv_iload hx hb dX2_orderByQuotients_22 (lv_at hl 2 rfl) ?_
                            refine lv_icmp_ge (tgt := 62) hx hb dX2_orderByQuotients_24 (by decide) (fun c24 => ?_) (fun c24 => ?_)
                            · refine lv_iload_n hx hb dX2_orderByQuotients_62 rfl (lv_at hl 4 rfl) ?_
                              subst hQ
                              exact m_iret C0 hS dX2_orderByQuotients_63 (u := ()) hP (by rw [n_ord, if_neg (by omega)]; simp only [m_obP, Nat.reduceDiv, *, if_true, if_false])
                            · exact absurd c24 (by decide)
                          · have c48 : (np x 255) = 1 := (nI_eq (a := (np x 255)) (b := 1) (by first | omega | exact Nat.lt_of_le_of_lt Nat.and_le_right (by decide) | exact Nat.lt_trans (nm_lt _ _) (by decide) | exact Nat.lt_trans (np_lt _ _) (by decide) | exact Nat.lt_trans (p_at_lt htx) (by decide)) (by first | omega | exact Nat.lt_of_le_of_lt Nat.and_le_right (by decide) | exact Nat.lt_trans (nm_lt _ _) (by decide) | exact Nat.lt_trans (np_lt _ _) (by decide) | exact Nat.lt_trans (p_at_lt htx) (by decide))).mp c48
                            refine lv_iload_n hx hb dX2_orderByQuotients_51 rfl (lv_at hl 4 rfl) ?_
                            refine lv_iload hx hb dX2_orderByQuotients_52 (lv_at hl 0 rfl) ?_
                            refine lv_idiv hx hb dX2_orderByQuotients_54 (by decide) ?_
                            refine lv_topi (nm_r (show _ = nI 255 from by decide) ?_)
                            refine lv_istore_n (lv' := [(2, .int (nI 255)), (6, .int (nI 257)), (5, .int (nI 3)), (4, .int (nI 4)), (3, .ref eO), (0, .ref a), (1, .int (nI x))]) hx hb dX2_orderByQuotients_55 rfl hl (by decide) rfl (fun ls hl => ?_)
                            refine lv_iinc (v := nI 4) (lv' := [(5, .int (nI 4)), (2, .int (nI 255)), (6, .int (nI 257)), (4, .int (nI 4)), (3, .ref eO), (0, .ref a), (1, .int (nI x))]) hx hb dX2_orderByQuotients_56 hl (k := 2) rfl (by decide) (by decide) rfl (fun ls hl => ?_)
                            refine lv_goto (tgt := 20) hx hb dX2_orderByQuotients_59 (by decide) ?_
                            refine lv_iload hx hb dX2_orderByQuotients_20 (lv_at hl 0 rfl) ?_
                            refine lv_iload hx hb dX2_orderByQuotients_22 (lv_at hl 3 rfl) ?_
                            refine lv_icmp_ge (tgt := 62) hx hb dX2_orderByQuotients_24 (by decide) (fun c24 => ?_) (fun c24 => ?_)
                            · refine lv_iload_n hx hb dX2_orderByQuotients_62 rfl (lv_at hl 1 rfl) ?_
                              subst hQ
                              exact m_iret C0 hS dX2_orderByQuotients_63 (u := ()) hP (by rw [n_ord, if_neg (by omega)]; simp only [m_obP, Nat.reduceDiv, *, if_true, if_false])
                            · exact absurd c24 (by decide)
                    · have c48 : (np x 3855) = 1 := (nI_eq (a := (np x 3855)) (b := 1) (by first | omega | exact Nat.lt_of_le_of_lt Nat.and_le_right (by decide) | exact Nat.lt_trans (nm_lt _ _) (by decide) | exact Nat.lt_trans (np_lt _ _) (by decide) | exact Nat.lt_trans (p_at_lt htx) (by decide)) (by first | omega | exact Nat.lt_of_le_of_lt Nat.and_le_right (by decide) | exact Nat.lt_trans (nm_lt _ _) (by decide) | exact Nat.lt_trans (np_lt _ _) (by decide) | exact Nat.lt_trans (p_at_lt htx) (by decide))).mp c48
                      refine lv_iload_n hx hb dX2_orderByQuotients_51 rfl (lv_at hl 4 rfl) ?_
                      refine lv_iload hx hb dX2_orderByQuotients_52 (lv_at hl 0 rfl) ?_
                      refine lv_idiv hx hb dX2_orderByQuotients_54 (by decide) ?_
                      refine lv_topi (nm_r (show _ = nI 3855 from by decide) ?_)
                      refine lv_istore_n (lv' := [(2, .int (nI 3855)), (6, .int (nI 17)), (5, .int (nI 2)), (4, .int (nI 4)), (3, .ref eO), (0, .ref a), (1, .int (nI x))]) hx hb dX2_orderByQuotients_55 rfl hl (by decide) rfl (fun ls hl => ?_)
                      refine lv_iinc (v := nI 3) (lv' := [(5, .int (nI 3)), (2, .int (nI 3855)), (6, .int (nI 17)), (4, .int (nI 4)), (3, .ref eO), (0, .ref a), (1, .int (nI x))]) hx hb dX2_orderByQuotients_56 hl (k := 2) rfl (by decide) (by decide) rfl (fun ls hl => ?_)
                      refine lv_goto (tgt := 20) hx hb dX2_orderByQuotients_59 (by decide) ?_
                      refine lv_iload hx hb dX2_orderByQuotients_20 (lv_at hl 0 rfl) ?_
                      refine lv_iload hx hb dX2_orderByQuotients_22 (lv_at hl 3 rfl) ?_
                      refine lv_icmp_ge (tgt := 62) hx hb dX2_orderByQuotients_24 (by decide) (fun c24 => ?_) (fun c24 => ?_)
                      · exact absurd c24 (by decide)
                      · refine lv_aload_n hx hb dX2_orderByQuotients_27 rfl (lv_at hl 4 rfl) ?_
                        refine lv_iload hx hb dX2_orderByQuotients_28 (lv_at hl 0 rfl) ?_
                        refine va_ti hx hb htO hS (m_in (n := 3) (by decide) (by decide)) (v := .int (nI 257)) (by rw [nI_clamp (by decide)]; rfl) dX2_orderByQuotients_30 ?_
                        refine lv_istore (lv' := [(6, .int (nI 257)), (5, .int (nI 3)), (2, .int (nI 3855)), (4, .int (nI 4)), (3, .ref eO), (0, .ref a), (1, .int (nI x))]) hx hb dX2_orderByQuotients_31 hl (by decide) rfl (fun ls hl => ?_)
                        refine lv_iload hx hb dX2_orderByQuotients_33 (lv_at hl 0 rfl) ?_
                        refine lv_if_le (tgt := 56) hx hb dX2_orderByQuotients_35 (by decide) (fun c35 => ?_) (fun c35 => ?_)
                        · exact absurd c35 (by decide)
                        · refine lv_aload_n hx hb dX2_orderByQuotients_38 rfl (lv_at hl 5 rfl) ?_
                          refine lv_iload_n hx hb dX2_orderByQuotients_39 rfl (lv_at hl 6 rfl) ?_
                          refine lv_iload_n hx hb dX2_orderByQuotients_40 rfl (lv_at hl 2 rfl) ?_
                          refine lv_iload hx hb dX2_orderByQuotients_41 (lv_at hl 0 rfl) ?_
                          refine lv_idiv hx hb dX2_orderByQuotients_43 (by decide) ?_
                          refine lv_topi (nm_r (show _ = nI 15 from by decide) ?_)
                          refine m_callVi (As := [.int (nI x), .int (nI 15)]) (rest := []) C0 hl hP hD hS (c_X2_raised l D cY a b bp x 15 (by first | assumption | omega | exact nm_lt _ _ | exact np_lt _ _ | decide) (by first | assumption | omega | exact nm_lt _ _ | exact np_lt _ _ | decide) (by first | assumption | omega | exact nm_lt _ _ | exact np_lt _ _ | decide)) (cwV 2 hts gX2_orderByQuotients_X2_raised rfl rfl rfl (by decide +kernel) ⟨Nat.le_of_ble_eq_true rfl, Nat.le_of_ble_eq_true rfl⟩) dX2_orderByQuotients_44 [0, 1] rfl rfl 0 rfl rfl rfl rfl (Nat.le_of_ble_eq_true rfl) (Nat.zero_le _) (Nat.zero_le _) (fun _ => rfl) (fun r10 u H9 locs hw hP hD hS => ?_)
                          try dsimp only at hw
                          obtain rfl := hw
                          have hP : va_P D vwCl [(a, .inr (2, [.ref b])), (b, .inl (cY 0, 256, .inl (m_nf bp)))] H9 := hP
                          have hD : va_D A [(a, .inr (2, [.ref b])), (b, .inl (cY 0, 256, .inl (m_nf bp)))] := hD
                          refine lv_iconst (v := nI 1) hx hb dX2_orderByQuotients_47 (by decide) ?_
                          refine lv_icmp_ne (tgt := 56) hx hb dX2_orderByQuotients_48 (by decide) (fun c48 => ?_) (fun c48 => ?_)
                          · have c48 : ¬ ((np x 15) = 1) := fun qq9 => c48 ((nI_eq (a := (np x 15)) (b := 1) (by first | omega | exact Nat.lt_of_le_of_lt Nat.and_le_right (by decide) | exact Nat.lt_trans (nm_lt _ _) (by decide) | exact Nat.lt_trans (np_lt _ _) (by decide) | exact Nat.lt_trans (p_at_lt htx) (by decide)) (by first | omega | exact Nat.lt_of_le_of_lt Nat.and_le_right (by decide) | exact Nat.lt_trans (nm_lt _ _) (by decide) | exact Nat.lt_trans (np_lt _ _) (by decide) | exact Nat.lt_trans (p_at_lt htx) (by decide))).mpr qq9)
                            refine lv_iinc (v := nI 4) (lv' := [(5, .int (nI 4)), (6, .int (nI 257)), (2, .int (nI 3855)), (4, .int (nI 4)), (3, .ref eO), (0, .ref a), (1, .int (nI x))]) hx hb dX2_orderByQuotients_56 hl (k := 1) rfl (by decide) (by decide) rfl (fun ls hl => ?_)
                            refine lv_goto (tgt := 20) hx hb dX2_orderByQuotients_59 (by decide) ?_
                            refine lv_iload hx hb dX2_orderByQuotients_20 (lv_at hl 0 rfl) ?_
                            refine lv_iload hx hb dX2_orderByQuotients_22 (lv_at hl 3 rfl) ?_
                            refine lv_icmp_ge (tgt := 62) hx hb dX2_orderByQuotients_24 (by decide) (fun c24 => ?_) (fun c24 => ?_)
                            · refine lv_iload_n hx hb dX2_orderByQuotients_62 rfl (lv_at hl 2 rfl) ?_
                              subst hQ
                              exact m_iret C0 hS dX2_orderByQuotients_63 (u := ()) hP (by rw [n_ord, if_neg (by omega)]; simp only [m_obP, Nat.reduceDiv, *, if_true, if_false])
                            · exact absurd c24 (by decide)
                          · have c48 : (np x 15) = 1 := (nI_eq (a := (np x 15)) (b := 1) (by first | omega | exact Nat.lt_of_le_of_lt Nat.and_le_right (by decide) | exact Nat.lt_trans (nm_lt _ _) (by decide) | exact Nat.lt_trans (np_lt _ _) (by decide) | exact Nat.lt_trans (p_at_lt htx) (by decide)) (by first | omega | exact Nat.lt_of_le_of_lt Nat.and_le_right (by decide) | exact Nat.lt_trans (nm_lt _ _) (by decide) | exact Nat.lt_trans (np_lt _ _) (by decide) | exact Nat.lt_trans (p_at_lt htx) (by decide))).mp c48
                            refine lv_iload_n hx hb dX2_orderByQuotients_51 rfl (lv_at hl 2 rfl) ?_
                            refine lv_iload hx hb dX2_orderByQuotients_52 (lv_at hl 0 rfl) ?_
                            refine lv_idiv hx hb dX2_orderByQuotients_54 (by decide) ?_
                            refine lv_topi (nm_r (show _ = nI 15 from by decide) ?_)
                            refine lv_istore_n (lv' := [(2, .int (nI 15)), (6, .int (nI 257)), (5, .int (nI 3)), (4, .int (nI 4)), (3, .ref eO), (0, .ref a), (1, .int (nI x))]) hx hb dX2_orderByQuotients_55 rfl hl (by decide) rfl (fun ls hl => ?_)
                            refine lv_iinc (v := nI 4) (lv' := [(5, .int (nI 4)), (2, .int (nI 15)), (6, .int (nI 257)), (4, .int (nI 4)), (3, .ref eO), (0, .ref a), (1, .int (nI x))]) hx hb dX2_orderByQuotients_56 hl (k := 2) rfl (by decide) (by decide) rfl (fun ls hl => ?_)
                            refine lv_goto (tgt := 20) hx hb dX2_orderByQuotients_59 (by decide) ?_
                            refine lv_iload hx hb dX2_orderByQuotients_20 (lv_at hl 0 rfl) ?_
                            refine lv_iload hx hb dX2_orderByQuotients_22 (lv_at hl 3 rfl) ?_
                            refine lv_icmp_ge (tgt := 62) hx hb dX2_orderByQuotients_24 (by decide) (fun c24 => ?_) (fun c24 => ?_)
                            · refine lv_iload_n hx hb dX2_orderByQuotients_62 rfl (lv_at hl 1 rfl) ?_
                              subst hQ
                              exact m_iret C0 hS dX2_orderByQuotients_63 (u := ()) hP (by rw [n_ord, if_neg (by omega)]; simp only [m_obP, Nat.reduceDiv, *, if_true, if_false])
                            · exact absurd c24 (by decide)
              · have c48 : (np x 13107) = 1 := (nI_eq (a := (np x 13107)) (b := 1) (by first | omega | exact Nat.lt_of_le_of_lt Nat.and_le_right (by decide) | exact Nat.lt_trans (nm_lt _ _) (by decide) | exact Nat.lt_trans (np_lt _ _) (by decide) | exact Nat.lt_trans (p_at_lt htx) (by decide)) (by first | omega | exact Nat.lt_of_le_of_lt Nat.and_le_right (by decide) | exact Nat.lt_trans (nm_lt _ _) (by decide) | exact Nat.lt_trans (np_lt _ _) (by decide) | exact Nat.lt_trans (p_at_lt htx) (by decide))).mp c48
                refine lv_iload_n hx hb dX2_orderByQuotients_51 rfl (lv_at hl 4 rfl) ?_
                refine lv_iload hx hb dX2_orderByQuotients_52 (lv_at hl 0 rfl) ?_
                refine lv_idiv hx hb dX2_orderByQuotients_54 (by decide) ?_
                refine lv_topi (nm_r (show _ = nI 13107 from by decide) ?_)
                refine lv_istore_n (lv' := [(2, .int (nI 13107)), (6, .int (nI 5)), (5, .int (nI 1)), (4, .int (nI 4)), (3, .ref eO), (0, .ref a), (1, .int (nI x))]) hx hb dX2_orderByQuotients_55 rfl hl (by decide) rfl (fun ls hl => ?_)
                refine lv_iinc (v := nI 2) (lv' := [(5, .int (nI 2)), (2, .int (nI 13107)), (6, .int (nI 5)), (4, .int (nI 4)), (3, .ref eO), (0, .ref a), (1, .int (nI x))]) hx hb dX2_orderByQuotients_56 hl (k := 2) rfl (by decide) (by decide) rfl (fun ls hl => ?_)
                refine lv_goto (tgt := 20) hx hb dX2_orderByQuotients_59 (by decide) ?_
                refine lv_iload hx hb dX2_orderByQuotients_20 (lv_at hl 0 rfl) ?_
                refine lv_iload hx hb dX2_orderByQuotients_22 (lv_at hl 3 rfl) ?_
                refine lv_icmp_ge (tgt := 62) hx hb dX2_orderByQuotients_24 (by decide) (fun c24 => ?_) (fun c24 => ?_)
                · exact absurd c24 (by decide)
                · refine lv_aload_n hx hb dX2_orderByQuotients_27 rfl (lv_at hl 4 rfl) ?_
                  refine lv_iload hx hb dX2_orderByQuotients_28 (lv_at hl 0 rfl) ?_
                  refine va_ti hx hb htO hS (m_in (n := 2) (by decide) (by decide)) (v := .int (nI 17)) (by rw [nI_clamp (by decide)]; rfl) dX2_orderByQuotients_30 ?_
                  refine lv_istore (lv' := [(6, .int (nI 17)), (5, .int (nI 2)), (2, .int (nI 13107)), (4, .int (nI 4)), (3, .ref eO), (0, .ref a), (1, .int (nI x))]) hx hb dX2_orderByQuotients_31 hl (by decide) rfl (fun ls hl => ?_)
                  refine lv_iload hx hb dX2_orderByQuotients_33 (lv_at hl 0 rfl) ?_
                  refine lv_if_le (tgt := 56) hx hb dX2_orderByQuotients_35 (by decide) (fun c35 => ?_) (fun c35 => ?_)
                  · exact absurd c35 (by decide)
                  · refine lv_aload_n hx hb dX2_orderByQuotients_38 rfl (lv_at hl 5 rfl) ?_
                    refine lv_iload_n hx hb dX2_orderByQuotients_39 rfl (lv_at hl 6 rfl) ?_
                    refine lv_iload_n hx hb dX2_orderByQuotients_40 rfl (lv_at hl 2 rfl) ?_
                    refine lv_iload hx hb dX2_orderByQuotients_41 (lv_at hl 0 rfl) ?_
                    refine lv_idiv hx hb dX2_orderByQuotients_43 (by decide) ?_
                    refine lv_topi (nm_r (show _ = nI 771 from by decide) ?_)
                    refine m_callVi (As := [.int (nI x), .int (nI 771)]) (rest := []) C0 hl hP hD hS (c_X2_raised l D cY a b bp x 771 (by first | assumption | omega | exact nm_lt _ _ | exact np_lt _ _ | decide) (by first | assumption | omega | exact nm_lt _ _ | exact np_lt _ _ | decide) (by first | assumption | omega | exact nm_lt _ _ | exact np_lt _ _ | decide)) (cwV 2 hts gX2_orderByQuotients_X2_raised rfl rfl rfl (by decide +kernel) ⟨Nat.le_of_ble_eq_true rfl, Nat.le_of_ble_eq_true rfl⟩) dX2_orderByQuotients_44 [0, 1] rfl rfl 0 rfl rfl rfl rfl (Nat.le_of_ble_eq_true rfl) (Nat.zero_le _) (Nat.zero_le _) (fun _ => rfl) (fun r12 u H11 locs hw hP hD hS => ?_)
                    try dsimp only at hw
                    obtain rfl := hw
                    have hP : va_P D vwCl [(a, .inr (2, [.ref b])), (b, .inl (cY 0, 256, .inl (m_nf bp)))] H11 := hP
                    have hD : va_D A [(a, .inr (2, [.ref b])), (b, .inl (cY 0, 256, .inl (m_nf bp)))] := hD
                    refine lv_iconst (v := nI 1) hx hb dX2_orderByQuotients_47 (by decide) ?_
                    refine lv_icmp_ne (tgt := 56) hx hb dX2_orderByQuotients_48 (by decide) (fun c48 => ?_) (fun c48 => ?_)
                    · have c48 : ¬ ((np x 771) = 1) := fun qq9 => c48 ((nI_eq (a := (np x 771)) (b := 1) (by first | omega | exact Nat.lt_of_le_of_lt Nat.and_le_right (by decide) | exact Nat.lt_trans (nm_lt _ _) (by decide) | exact Nat.lt_trans (np_lt _ _) (by decide) | exact Nat.lt_trans (p_at_lt htx) (by decide)) (by first | omega | exact Nat.lt_of_le_of_lt Nat.and_le_right (by decide) | exact Nat.lt_trans (nm_lt _ _) (by decide) | exact Nat.lt_trans (np_lt _ _) (by decide) | exact Nat.lt_trans (p_at_lt htx) (by decide))).mpr qq9)
                      refine lv_iinc (v := nI 3) (lv' := [(5, .int (nI 3)), (6, .int (nI 17)), (2, .int (nI 13107)), (4, .int (nI 4)), (3, .ref eO), (0, .ref a), (1, .int (nI x))]) hx hb dX2_orderByQuotients_56 hl (k := 1) rfl (by decide) (by decide) rfl (fun ls hl => ?_)
                      refine lv_goto (tgt := 20) hx hb dX2_orderByQuotients_59 (by decide) ?_
                      refine lv_iload hx hb dX2_orderByQuotients_20 (lv_at hl 0 rfl) ?_
                      refine lv_iload hx hb dX2_orderByQuotients_22 (lv_at hl 3 rfl) ?_
                      refine lv_icmp_ge (tgt := 62) hx hb dX2_orderByQuotients_24 (by decide) (fun c24 => ?_) (fun c24 => ?_)
                      · exact absurd c24 (by decide)
                      · refine lv_aload_n hx hb dX2_orderByQuotients_27 rfl (lv_at hl 4 rfl) ?_
                        refine lv_iload hx hb dX2_orderByQuotients_28 (lv_at hl 0 rfl) ?_
                        refine va_ti hx hb htO hS (m_in (n := 3) (by decide) (by decide)) (v := .int (nI 257)) (by rw [nI_clamp (by decide)]; rfl) dX2_orderByQuotients_30 ?_
                        refine lv_istore (lv' := [(6, .int (nI 257)), (5, .int (nI 3)), (2, .int (nI 13107)), (4, .int (nI 4)), (3, .ref eO), (0, .ref a), (1, .int (nI x))]) hx hb dX2_orderByQuotients_31 hl (by decide) rfl (fun ls hl => ?_)
                        refine lv_iload hx hb dX2_orderByQuotients_33 (lv_at hl 0 rfl) ?_
                        refine lv_if_le (tgt := 56) hx hb dX2_orderByQuotients_35 (by decide) (fun c35 => ?_) (fun c35 => ?_)
                        · exact absurd c35 (by decide)
                        · refine lv_aload_n hx hb dX2_orderByQuotients_38 rfl (lv_at hl 5 rfl) ?_
                          refine lv_iload_n hx hb dX2_orderByQuotients_39 rfl (lv_at hl 6 rfl) ?_
                          refine lv_iload_n hx hb dX2_orderByQuotients_40 rfl (lv_at hl 2 rfl) ?_
                          refine lv_iload hx hb dX2_orderByQuotients_41 (lv_at hl 0 rfl) ?_
                          refine lv_idiv hx hb dX2_orderByQuotients_43 (by decide) ?_
                          refine lv_topi (nm_r (show _ = nI 51 from by decide) ?_)
                          refine m_callVi (As := [.int (nI x), .int (nI 51)]) (rest := []) C0 hl hP hD hS (c_X2_raised l D cY a b bp x 51 (by first | assumption | omega | exact nm_lt _ _ | exact np_lt _ _ | decide) (by first | assumption | omega | exact nm_lt _ _ | exact np_lt _ _ | decide) (by first | assumption | omega | exact nm_lt _ _ | exact np_lt _ _ | decide)) (cwV 2 hts gX2_orderByQuotients_X2_raised rfl rfl rfl (by decide +kernel) ⟨Nat.le_of_ble_eq_true rfl, Nat.le_of_ble_eq_true rfl⟩) dX2_orderByQuotients_44 [0, 1] rfl rfl 0 rfl rfl rfl rfl (Nat.le_of_ble_eq_true rfl) (Nat.zero_le _) (Nat.zero_le _) (fun _ => rfl) (fun r14 u H13 locs hw hP hD hS => ?_)
                          try dsimp only at hw
                          obtain rfl := hw
                          have hP : va_P D vwCl [(a, .inr (2, [.ref b])), (b, .inl (cY 0, 256, .inl (m_nf bp)))] H13 := hP
                          have hD : va_D A [(a, .inr (2, [.ref b])), (b, .inl (cY 0, 256, .inl (m_nf bp)))] := hD
                          refine lv_iconst (v := nI 1) hx hb dX2_orderByQuotients_47 (by decide) ?_
                          refine lv_icmp_ne (tgt := 56) hx hb dX2_orderByQuotients_48 (by decide) (fun c48 => ?_) (fun c48 => ?_)
                          · have c48 : ¬ ((np x 51) = 1) := fun qq9 => c48 ((nI_eq (a := (np x 51)) (b := 1) (by first | omega | exact Nat.lt_of_le_of_lt Nat.and_le_right (by decide) | exact Nat.lt_trans (nm_lt _ _) (by decide) | exact Nat.lt_trans (np_lt _ _) (by decide) | exact Nat.lt_trans (p_at_lt htx) (by decide)) (by first | omega | exact Nat.lt_of_le_of_lt Nat.and_le_right (by decide) | exact Nat.lt_trans (nm_lt _ _) (by decide) | exact Nat.lt_trans (np_lt _ _) (by decide) | exact Nat.lt_trans (p_at_lt htx) (by decide))).mpr qq9)
                            refine lv_iinc (v := nI 4) (lv' := [(5, .int (nI 4)), (6, .int (nI 257)), (2, .int (nI 13107)), (4, .int (nI 4)), (3, .ref eO), (0, .ref a), (1, .int (nI x))]) hx hb dX2_orderByQuotients_56 hl (k := 1) rfl (by decide) (by decide) rfl (fun ls hl => ?_)
                            refine lv_goto (tgt := 20) hx hb dX2_orderByQuotients_59 (by decide) ?_
                            refine lv_iload hx hb dX2_orderByQuotients_20 (lv_at hl 0 rfl) ?_
                            refine lv_iload hx hb dX2_orderByQuotients_22 (lv_at hl 3 rfl) ?_
                            refine lv_icmp_ge (tgt := 62) hx hb dX2_orderByQuotients_24 (by decide) (fun c24 => ?_) (fun c24 => ?_)
                            · refine lv_iload_n hx hb dX2_orderByQuotients_62 rfl (lv_at hl 2 rfl) ?_
                              subst hQ
                              exact m_iret C0 hS dX2_orderByQuotients_63 (u := ()) hP (by rw [n_ord, if_neg (by omega)]; simp only [m_obP, Nat.reduceDiv, *, if_true, if_false])
                            · exact absurd c24 (by decide)
                          · have c48 : (np x 51) = 1 := (nI_eq (a := (np x 51)) (b := 1) (by first | omega | exact Nat.lt_of_le_of_lt Nat.and_le_right (by decide) | exact Nat.lt_trans (nm_lt _ _) (by decide) | exact Nat.lt_trans (np_lt _ _) (by decide) | exact Nat.lt_trans (p_at_lt htx) (by decide)) (by first | omega | exact Nat.lt_of_le_of_lt Nat.and_le_right (by decide) | exact Nat.lt_trans (nm_lt _ _) (by decide) | exact Nat.lt_trans (np_lt _ _) (by decide) | exact Nat.lt_trans (p_at_lt htx) (by decide))).mp c48
                            refine lv_iload_n hx hb dX2_orderByQuotients_51 rfl (lv_at hl 2 rfl) ?_
                            refine lv_iload hx hb dX2_orderByQuotients_52 (lv_at hl 0 rfl) ?_
                            refine lv_idiv hx hb dX2_orderByQuotients_54 (by decide) ?_
                            refine lv_topi (nm_r (show _ = nI 51 from by decide) ?_)
                            refine lv_istore_n (lv' := [(2, .int (nI 51)), (6, .int (nI 257)), (5, .int (nI 3)), (4, .int (nI 4)), (3, .ref eO), (0, .ref a), (1, .int (nI x))]) hx hb dX2_orderByQuotients_55 rfl hl (by decide) rfl (fun ls hl => ?_)
                            refine lv_iinc (v := nI 4) (lv' := [(5, .int (nI 4)), (2, .int (nI 51)), (6, .int (nI 257)), (4, .int (nI 4)), (3, .ref eO), (0, .ref a), (1, .int (nI x))]) hx hb dX2_orderByQuotients_56 hl (k := 2) rfl (by decide) (by decide) rfl (fun ls hl => ?_)
                            refine lv_goto (tgt := 20) hx hb dX2_orderByQuotients_59 (by decide) ?_
                            refine lv_iload hx hb dX2_orderByQuotients_20 (lv_at hl 0 rfl) ?_
                            refine lv_iload hx hb dX2_orderByQuotients_22 (lv_at hl 3 rfl) ?_
                            refine lv_icmp_ge (tgt := 62) hx hb dX2_orderByQuotients_24 (by decide) (fun c24 => ?_) (fun c24 => ?_)
                            · refine lv_iload_n hx hb dX2_orderByQuotients_62 rfl (lv_at hl 1 rfl) ?_
                              subst hQ
                              exact m_iret C0 hS dX2_orderByQuotients_63 (u := ()) hP (by rw [n_ord, if_neg (by omega)]; simp only [m_obP, Nat.reduceDiv, *, if_true, if_false])
                            · exact absurd c24 (by decide)
                    · have c48 : (np x 771) = 1 := (nI_eq (a := (np x 771)) (b := 1) (by first | omega | exact Nat.lt_of_le_of_lt Nat.and_le_right (by decide) | exact Nat.lt_trans (nm_lt _ _) (by decide) | exact Nat.lt_trans (np_lt _ _) (by decide) | exact Nat.lt_trans (p_at_lt htx) (by decide)) (by first | omega | exact Nat.lt_of_le_of_lt Nat.and_le_right (by decide) | exact Nat.lt_trans (nm_lt _ _) (by decide) | exact Nat.lt_trans (np_lt _ _) (by decide) | exact Nat.lt_trans (p_at_lt htx) (by decide))).mp c48
                      refine lv_iload_n hx hb dX2_orderByQuotients_51 rfl (lv_at hl 2 rfl) ?_
                      refine lv_iload hx hb dX2_orderByQuotients_52 (lv_at hl 0 rfl) ?_
                      refine lv_idiv hx hb dX2_orderByQuotients_54 (by decide) ?_
                      refine lv_topi (nm_r (show _ = nI 771 from by decide) ?_)
                      refine lv_istore_n (lv' := [(2, .int (nI 771)), (6, .int (nI 17)), (5, .int (nI 2)), (4, .int (nI 4)), (3, .ref eO), (0, .ref a), (1, .int (nI x))]) hx hb dX2_orderByQuotients_55 rfl hl (by decide) rfl (fun ls hl => ?_)
                      refine lv_iinc (v := nI 3) (lv' := [(5, .int (nI 3)), (2, .int (nI 771)), (6, .int (nI 17)), (4, .int (nI 4)), (3, .ref eO), (0, .ref a), (1, .int (nI x))]) hx hb dX2_orderByQuotients_56 hl (k := 2) rfl (by decide) (by decide) rfl (fun ls hl => ?_)
                      refine lv_goto (tgt := 20) hx hb dX2_orderByQuotients_59 (by decide) ?_
                      refine lv_iload hx hb dX2_orderByQuotients_20 (lv_at hl 0 rfl) ?_
                      refine lv_iload hx hb dX2_orderByQuotients_22 (lv_at hl 3 rfl) ?_
                      refine lv_icmp_ge (tgt := 62) hx hb dX2_orderByQuotients_24 (by decide) (fun c24 => ?_) (fun c24 => ?_)
                      · exact absurd c24 (by decide)
                      · refine lv_aload_n hx hb dX2_orderByQuotients_27 rfl (lv_at hl 4 rfl) ?_
                        refine lv_iload hx hb dX2_orderByQuotients_28 (lv_at hl 0 rfl) ?_
                        refine va_ti hx hb htO hS (m_in (n := 3) (by decide) (by decide)) (v := .int (nI 257)) (by rw [nI_clamp (by decide)]; rfl) dX2_orderByQuotients_30 ?_
                        refine lv_istore (lv' := [(6, .int (nI 257)), (5, .int (nI 3)), (2, .int (nI 771)), (4, .int (nI 4)), (3, .ref eO), (0, .ref a), (1, .int (nI x))]) hx hb dX2_orderByQuotients_31 hl (by decide) rfl (fun ls hl => ?_)
                        refine lv_iload hx hb dX2_orderByQuotients_33 (lv_at hl 0 rfl) ?_
                        refine lv_if_le (tgt := 56) hx hb dX2_orderByQuotients_35 (by decide) (fun c35 => ?_) (fun c35 => ?_)
                        · exact absurd c35 (by decide)
                        · refine lv_aload_n hx hb dX2_orderByQuotients_38 rfl (lv_at hl 5 rfl) ?_
                          refine lv_iload_n hx hb dX2_orderByQuotients_39 rfl (lv_at hl 6 rfl) ?_
                          refine lv_iload_n hx hb dX2_orderByQuotients_40 rfl (lv_at hl 2 rfl) ?_
                          refine lv_iload hx hb dX2_orderByQuotients_41 (lv_at hl 0 rfl) ?_
                          refine lv_idiv hx hb dX2_orderByQuotients_43 (by decide) ?_
                          refine lv_topi (nm_r (show _ = nI 3 from by decide) ?_)
                          refine m_callVi (As := [.int (nI x), .int (nI 3)]) (rest := []) C0 hl hP hD hS (c_X2_raised l D cY a b bp x 3 (by first | assumption | omega | exact nm_lt _ _ | exact np_lt _ _ | decide) (by first | assumption | omega | exact nm_lt _ _ | exact np_lt _ _ | decide) (by first | assumption | omega | exact nm_lt _ _ | exact np_lt _ _ | decide)) (cwV 2 hts gX2_orderByQuotients_X2_raised rfl rfl rfl (by decide +kernel) ⟨Nat.le_of_ble_eq_true rfl, Nat.le_of_ble_eq_true rfl⟩) dX2_orderByQuotients_44 [0, 1] rfl rfl 0 rfl rfl rfl rfl (Nat.le_of_ble_eq_true rfl) (Nat.zero_le _) (Nat.zero_le _) (fun _ => rfl) (fun r16 u H15 locs hw hP hD hS => ?_)
                          try dsimp only at hw
                          obtain rfl := hw
                          have hP : va_P D vwCl [(a, .inr (2, [.ref b])), (b, .inl (cY 0, 256, .inl (m_nf bp)))] H15 := hP
                          have hD : va_D A [(a, .inr (2, [.ref b])), (b, .inl (cY 0, 256, .inl (m_nf bp)))] := hD
                          refine lv_iconst (v := nI 1) hx hb dX2_orderByQuotients_47 (by decide) ?_
                          refine lv_icmp_ne (tgt := 56) hx hb dX2_orderByQuotients_48 (by decide) (fun c48 => ?_) (fun c48 => ?_)
                          · have c48 : ¬ ((np x 3) = 1) := fun qq9 => c48 ((nI_eq (a := (np x 3)) (b := 1) (by first | omega | exact Nat.lt_of_le_of_lt Nat.and_le_right (by decide) | exact Nat.lt_trans (nm_lt _ _) (by decide) | exact Nat.lt_trans (np_lt _ _) (by decide) | exact Nat.lt_trans (p_at_lt htx) (by decide)) (by first | omega | exact Nat.lt_of_le_of_lt Nat.and_le_right (by decide) | exact Nat.lt_trans (nm_lt _ _) (by decide) | exact Nat.lt_trans (np_lt _ _) (by decide) | exact Nat.lt_trans (p_at_lt htx) (by decide))).mpr qq9)
                            refine lv_iinc (v := nI 4) (lv' := [(5, .int (nI 4)), (6, .int (nI 257)), (2, .int (nI 771)), (4, .int (nI 4)), (3, .ref eO), (0, .ref a), (1, .int (nI x))]) hx hb dX2_orderByQuotients_56 hl (k := 1) rfl (by decide) (by decide) rfl (fun ls hl => ?_)
                            refine lv_goto (tgt := 20) hx hb dX2_orderByQuotients_59 (by decide) ?_
                            refine lv_iload hx hb dX2_orderByQuotients_20 (lv_at hl 0 rfl) ?_
                            refine lv_iload hx hb dX2_orderByQuotients_22 (lv_at hl 3 rfl) ?_
                            refine lv_icmp_ge (tgt := 62) hx hb dX2_orderByQuotients_24 (by decide) (fun c24 => ?_) (fun c24 => ?_)
                            · refine lv_iload_n hx hb dX2_orderByQuotients_62 rfl (lv_at hl 2 rfl) ?_
                              subst hQ
                              exact m_iret C0 hS dX2_orderByQuotients_63 (u := ()) hP (by rw [n_ord, if_neg (by omega)]; simp only [m_obP, Nat.reduceDiv, *, if_true, if_false])
                            · exact absurd c24 (by decide)
                          · have c48 : (np x 3) = 1 := (nI_eq (a := (np x 3)) (b := 1) (by first | omega | exact Nat.lt_of_le_of_lt Nat.and_le_right (by decide) | exact Nat.lt_trans (nm_lt _ _) (by decide) | exact Nat.lt_trans (np_lt _ _) (by decide) | exact Nat.lt_trans (p_at_lt htx) (by decide)) (by first | omega | exact Nat.lt_of_le_of_lt Nat.and_le_right (by decide) | exact Nat.lt_trans (nm_lt _ _) (by decide) | exact Nat.lt_trans (np_lt _ _) (by decide) | exact Nat.lt_trans (p_at_lt htx) (by decide))).mp c48
                            refine lv_iload_n hx hb dX2_orderByQuotients_51 rfl (lv_at hl 2 rfl) ?_
                            refine lv_iload hx hb dX2_orderByQuotients_52 (lv_at hl 0 rfl) ?_
                            refine lv_idiv hx hb dX2_orderByQuotients_54 (by decide) ?_
                            refine lv_topi (nm_r (show _ = nI 3 from by decide) ?_)
                            refine lv_istore_n (lv' := [(2, .int (nI 3)), (6, .int (nI 257)), (5, .int (nI 3)), (4, .int (nI 4)), (3, .ref eO), (0, .ref a), (1, .int (nI x))]) hx hb dX2_orderByQuotients_55 rfl hl (by decide) rfl (fun ls hl => ?_)
                            refine lv_iinc (v := nI 4) (lv' := [(5, .int (nI 4)), (2, .int (nI 3)), (6, .int (nI 257)), (4, .int (nI 4)), (3, .ref eO), (0, .ref a), (1, .int (nI x))]) hx hb dX2_orderByQuotients_56 hl (k := 2) rfl (by decide) (by decide) rfl (fun ls hl => ?_)
                            refine lv_goto (tgt := 20) hx hb dX2_orderByQuotients_59 (by decide) ?_
                            refine lv_iload hx hb dX2_orderByQuotients_20 (lv_at hl 0 rfl) ?_
                            refine lv_iload hx hb dX2_orderByQuotients_22 (lv_at hl 3 rfl) ?_
                            refine lv_icmp_ge (tgt := 62) hx hb dX2_orderByQuotients_24 (by decide) (fun c24 => ?_) (fun c24 => ?_)
                            · refine lv_iload_n hx hb dX2_orderByQuotients_62 rfl (lv_at hl 1 rfl) ?_
                              subst hQ
                              exact m_iret C0 hS dX2_orderByQuotients_63 (u := ()) hP (by rw [n_ord, if_neg (by omega)]; simp only [m_obP, Nat.reduceDiv, *, if_true, if_false])
                            · exact absurd c24 (by decide)
        · have c48 : (np x 21845) = 1 := (nI_eq (a := (np x 21845)) (b := 1) (by first | omega | exact Nat.lt_of_le_of_lt Nat.and_le_right (by decide) | exact Nat.lt_trans (nm_lt _ _) (by decide) | exact Nat.lt_trans (np_lt _ _) (by decide) | exact Nat.lt_trans (p_at_lt htx) (by decide)) (by first | omega | exact Nat.lt_of_le_of_lt Nat.and_le_right (by decide) | exact Nat.lt_trans (nm_lt _ _) (by decide) | exact Nat.lt_trans (np_lt _ _) (by decide) | exact Nat.lt_trans (p_at_lt htx) (by decide))).mp c48
          refine lv_iload_n hx hb dX2_orderByQuotients_51 rfl (lv_at hl 4 rfl) ?_
          refine lv_iload hx hb dX2_orderByQuotients_52 (lv_at hl 0 rfl) ?_
          refine lv_idiv hx hb dX2_orderByQuotients_54 (by decide) ?_
          refine lv_topi (nm_r (show _ = nI 21845 from by decide) ?_)
          refine lv_istore_n (lv' := [(2, .int (nI 21845)), (6, .int (nI 3)), (5, .int (nI 0)), (4, .int (nI 4)), (3, .ref eO), (0, .ref a), (1, .int (nI x))]) hx hb dX2_orderByQuotients_55 rfl hl (by decide) rfl (fun ls hl => ?_)
          refine lv_iinc (v := nI 1) (lv' := [(5, .int (nI 1)), (2, .int (nI 21845)), (6, .int (nI 3)), (4, .int (nI 4)), (3, .ref eO), (0, .ref a), (1, .int (nI x))]) hx hb dX2_orderByQuotients_56 hl (k := 2) rfl (by decide) (by decide) rfl (fun ls hl => ?_)
          refine lv_goto (tgt := 20) hx hb dX2_orderByQuotients_59 (by decide) ?_
          refine lv_iload hx hb dX2_orderByQuotients_20 (lv_at hl 0 rfl) ?_
          refine lv_iload hx hb dX2_orderByQuotients_22 (lv_at hl 3 rfl) ?_
          refine lv_icmp_ge (tgt := 62) hx hb dX2_orderByQuotients_24 (by decide) (fun c24 => ?_) (fun c24 => ?_)
          · exact absurd c24 (by decide)
          · refine lv_aload_n hx hb dX2_orderByQuotients_27 rfl (lv_at hl 4 rfl) ?_
            refine lv_iload hx hb dX2_orderByQuotients_28 (lv_at hl 0 rfl) ?_
            refine va_ti hx hb htO hS (m_in (n := 1) (by decide) (by decide)) (v := .int (nI 5)) (by rw [nI_clamp (by decide)]; rfl) dX2_orderByQuotients_30 ?_
            refine lv_istore (lv' := [(6, .int (nI 5)), (5, .int (nI 1)), (2, .int (nI 21845)), (4, .int (nI 4)), (3, .ref eO), (0, .ref a), (1, .int (nI x))]) hx hb dX2_orderByQuotients_31 hl (by decide) rfl (fun ls hl => ?_)
            refine lv_iload hx hb dX2_orderByQuotients_33 (lv_at hl 0 rfl) ?_
            refine lv_if_le (tgt := 56) hx hb dX2_orderByQuotients_35 (by decide) (fun c35 => ?_) (fun c35 => ?_)
            · exact absurd c35 (by decide)
            · refine lv_aload_n hx hb dX2_orderByQuotients_38 rfl (lv_at hl 5 rfl) ?_
              refine lv_iload_n hx hb dX2_orderByQuotients_39 rfl (lv_at hl 6 rfl) ?_
              refine lv_iload_n hx hb dX2_orderByQuotients_40 rfl (lv_at hl 2 rfl) ?_
              refine lv_iload hx hb dX2_orderByQuotients_41 (lv_at hl 0 rfl) ?_
              refine lv_idiv hx hb dX2_orderByQuotients_43 (by decide) ?_
              refine lv_topi (nm_r (show _ = nI 4369 from by decide) ?_)
              refine m_callVi (As := [.int (nI x), .int (nI 4369)]) (rest := []) C0 hl hP hD hS (c_X2_raised l D cY a b bp x 4369 (by first | assumption | omega | exact nm_lt _ _ | exact np_lt _ _ | decide) (by first | assumption | omega | exact nm_lt _ _ | exact np_lt _ _ | decide) (by first | assumption | omega | exact nm_lt _ _ | exact np_lt _ _ | decide)) (cwV 2 hts gX2_orderByQuotients_X2_raised rfl rfl rfl (by decide +kernel) ⟨Nat.le_of_ble_eq_true rfl, Nat.le_of_ble_eq_true rfl⟩) dX2_orderByQuotients_44 [0, 1] rfl rfl 0 rfl rfl rfl rfl (Nat.le_of_ble_eq_true rfl) (Nat.zero_le _) (Nat.zero_le _) (fun _ => rfl) (fun r18 u H17 locs hw hP hD hS => ?_)
              try dsimp only at hw
              obtain rfl := hw
              have hP : va_P D vwCl [(a, .inr (2, [.ref b])), (b, .inl (cY 0, 256, .inl (m_nf bp)))] H17 := hP
              have hD : va_D A [(a, .inr (2, [.ref b])), (b, .inl (cY 0, 256, .inl (m_nf bp)))] := hD
              refine lv_iconst (v := nI 1) hx hb dX2_orderByQuotients_47 (by decide) ?_
              refine lv_icmp_ne (tgt := 56) hx hb dX2_orderByQuotients_48 (by decide) (fun c48 => ?_) (fun c48 => ?_)
              · have c48 : ¬ ((np x 4369) = 1) := fun qq9 => c48 ((nI_eq (a := (np x 4369)) (b := 1) (by first | omega | exact Nat.lt_of_le_of_lt Nat.and_le_right (by decide) | exact Nat.lt_trans (nm_lt _ _) (by decide) | exact Nat.lt_trans (np_lt _ _) (by decide) | exact Nat.lt_trans (p_at_lt htx) (by decide)) (by first | omega | exact Nat.lt_of_le_of_lt Nat.and_le_right (by decide) | exact Nat.lt_trans (nm_lt _ _) (by decide) | exact Nat.lt_trans (np_lt _ _) (by decide) | exact Nat.lt_trans (p_at_lt htx) (by decide))).mpr qq9)
                refine lv_iinc (v := nI 2) (lv' := [(5, .int (nI 2)), (6, .int (nI 5)), (2, .int (nI 21845)), (4, .int (nI 4)), (3, .ref eO), (0, .ref a), (1, .int (nI x))]) hx hb dX2_orderByQuotients_56 hl (k := 1) rfl (by decide) (by decide) rfl (fun ls hl => ?_)
                refine lv_goto (tgt := 20) hx hb dX2_orderByQuotients_59 (by decide) ?_
                refine lv_iload hx hb dX2_orderByQuotients_20 (lv_at hl 0 rfl) ?_
                refine lv_iload hx hb dX2_orderByQuotients_22 (lv_at hl 3 rfl) ?_
                refine lv_icmp_ge (tgt := 62) hx hb dX2_orderByQuotients_24 (by decide) (fun c24 => ?_) (fun c24 => ?_)
                · exact absurd c24 (by decide)
                · refine lv_aload_n hx hb dX2_orderByQuotients_27 rfl (lv_at hl 4 rfl) ?_
                  refine lv_iload hx hb dX2_orderByQuotients_28 (lv_at hl 0 rfl) ?_
                  refine va_ti hx hb htO hS (m_in (n := 2) (by decide) (by decide)) (v := .int (nI 17)) (by rw [nI_clamp (by decide)]; rfl) dX2_orderByQuotients_30 ?_
                  refine lv_istore (lv' := [(6, .int (nI 17)), (5, .int (nI 2)), (2, .int (nI 21845)), (4, .int (nI 4)), (3, .ref eO), (0, .ref a), (1, .int (nI x))]) hx hb dX2_orderByQuotients_31 hl (by decide) rfl (fun ls hl => ?_)
                  refine lv_iload hx hb dX2_orderByQuotients_33 (lv_at hl 0 rfl) ?_
                  refine lv_if_le (tgt := 56) hx hb dX2_orderByQuotients_35 (by decide) (fun c35 => ?_) (fun c35 => ?_)
                  · exact absurd c35 (by decide)
                  · refine lv_aload_n hx hb dX2_orderByQuotients_38 rfl (lv_at hl 5 rfl) ?_
                    refine lv_iload_n hx hb dX2_orderByQuotients_39 rfl (lv_at hl 6 rfl) ?_
                    refine lv_iload_n hx hb dX2_orderByQuotients_40 rfl (lv_at hl 2 rfl) ?_
                    refine lv_iload hx hb dX2_orderByQuotients_41 (lv_at hl 0 rfl) ?_
                    refine lv_idiv hx hb dX2_orderByQuotients_43 (by decide) ?_
                    refine lv_topi (nm_r (show _ = nI 1285 from by decide) ?_)
                    refine m_callVi (As := [.int (nI x), .int (nI 1285)]) (rest := []) C0 hl hP hD hS (c_X2_raised l D cY a b bp x 1285 (by first | assumption | omega | exact nm_lt _ _ | exact np_lt _ _ | decide) (by first | assumption | omega | exact nm_lt _ _ | exact np_lt _ _ | decide) (by first | assumption | omega | exact nm_lt _ _ | exact np_lt _ _ | decide)) (cwV 2 hts gX2_orderByQuotients_X2_raised rfl rfl rfl (by decide +kernel) ⟨Nat.le_of_ble_eq_true rfl, Nat.le_of_ble_eq_true rfl⟩) dX2_orderByQuotients_44 [0, 1] rfl rfl 0 rfl rfl rfl rfl (Nat.le_of_ble_eq_true rfl) (Nat.zero_le _) (Nat.zero_le _) (fun _ => rfl) (fun r20 u H19 locs hw hP hD hS => ?_)
                    try dsimp only at hw
                    obtain rfl := hw
                    have hP : va_P D vwCl [(a, .inr (2, [.ref b])), (b, .inl (cY 0, 256, .inl (m_nf bp)))] H19 := hP
                    have hD : va_D A [(a, .inr (2, [.ref b])), (b, .inl (cY 0, 256, .inl (m_nf bp)))] := hD
                    refine lv_iconst (v := nI 1) hx hb dX2_orderByQuotients_47 (by decide) ?_
                    refine lv_icmp_ne (tgt := 56) hx hb dX2_orderByQuotients_48 (by decide) (fun c48 => ?_) (fun c48 => ?_)
                    · have c48 : ¬ ((np x 1285) = 1) := fun qq9 => c48 ((nI_eq (a := (np x 1285)) (b := 1) (by first | omega | exact Nat.lt_of_le_of_lt Nat.and_le_right (by decide) | exact Nat.lt_trans (nm_lt _ _) (by decide) | exact Nat.lt_trans (np_lt _ _) (by decide) | exact Nat.lt_trans (p_at_lt htx) (by decide)) (by first | omega | exact Nat.lt_of_le_of_lt Nat.and_le_right (by decide) | exact Nat.lt_trans (nm_lt _ _) (by decide) | exact Nat.lt_trans (np_lt _ _) (by decide) | exact Nat.lt_trans (p_at_lt htx) (by decide))).mpr qq9)
                      refine lv_iinc (v := nI 3) (lv' := [(5, .int (nI 3)), (6, .int (nI 17)), (2, .int (nI 21845)), (4, .int (nI 4)), (3, .ref eO), (0, .ref a), (1, .int (nI x))]) hx hb dX2_orderByQuotients_56 hl (k := 1) rfl (by decide) (by decide) rfl (fun ls hl => ?_)
                      refine lv_goto (tgt := 20) hx hb dX2_orderByQuotients_59 (by decide) ?_
                      refine lv_iload hx hb dX2_orderByQuotients_20 (lv_at hl 0 rfl) ?_
                      refine lv_iload hx hb dX2_orderByQuotients_22 (lv_at hl 3 rfl) ?_
                      refine lv_icmp_ge (tgt := 62) hx hb dX2_orderByQuotients_24 (by decide) (fun c24 => ?_) (fun c24 => ?_)
                      · exact absurd c24 (by decide)
                      · refine lv_aload_n hx hb dX2_orderByQuotients_27 rfl (lv_at hl 4 rfl) ?_
                        refine lv_iload hx hb dX2_orderByQuotients_28 (lv_at hl 0 rfl) ?_
                        refine va_ti hx hb htO hS (m_in (n := 3) (by decide) (by decide)) (v := .int (nI 257)) (by rw [nI_clamp (by decide)]; rfl) dX2_orderByQuotients_30 ?_
                        refine lv_istore (lv' := [(6, .int (nI 257)), (5, .int (nI 3)), (2, .int (nI 21845)), (4, .int (nI 4)), (3, .ref eO), (0, .ref a), (1, .int (nI x))]) hx hb dX2_orderByQuotients_31 hl (by decide) rfl (fun ls hl => ?_)
                        refine lv_iload hx hb dX2_orderByQuotients_33 (lv_at hl 0 rfl) ?_
                        refine lv_if_le (tgt := 56) hx hb dX2_orderByQuotients_35 (by decide) (fun c35 => ?_) (fun c35 => ?_)
                        · exact absurd c35 (by decide)
                        · refine lv_aload_n hx hb dX2_orderByQuotients_38 rfl (lv_at hl 5 rfl) ?_
                          refine lv_iload_n hx hb dX2_orderByQuotients_39 rfl (lv_at hl 6 rfl) ?_
                          refine lv_iload_n hx hb dX2_orderByQuotients_40 rfl (lv_at hl 2 rfl) ?_
                          refine lv_iload hx hb dX2_orderByQuotients_41 (lv_at hl 0 rfl) ?_
                          refine lv_idiv hx hb dX2_orderByQuotients_43 (by decide) ?_
                          refine lv_topi (nm_r (show _ = nI 85 from by decide) ?_)
                          refine m_callVi (As := [.int (nI x), .int (nI 85)]) (rest := []) C0 hl hP hD hS (c_X2_raised l D cY a b bp x 85 (by first | assumption | omega | exact nm_lt _ _ | exact np_lt _ _ | decide) (by first | assumption | omega | exact nm_lt _ _ | exact np_lt _ _ | decide) (by first | assumption | omega | exact nm_lt _ _ | exact np_lt _ _ | decide)) (cwV 2 hts gX2_orderByQuotients_X2_raised rfl rfl rfl (by decide +kernel) ⟨Nat.le_of_ble_eq_true rfl, Nat.le_of_ble_eq_true rfl⟩) dX2_orderByQuotients_44 [0, 1] rfl rfl 0 rfl rfl rfl rfl (Nat.le_of_ble_eq_true rfl) (Nat.zero_le _) (Nat.zero_le _) (fun _ => rfl) (fun r22 u H21 locs hw hP hD hS => ?_)
                          try dsimp only at hw
                          obtain rfl := hw
                          have hP : va_P D vwCl [(a, .inr (2, [.ref b])), (b, .inl (cY 0, 256, .inl (m_nf bp)))] H21 := hP
                          have hD : va_D A [(a, .inr (2, [.ref b])), (b, .inl (cY 0, 256, .inl (m_nf bp)))] := hD
                          refine lv_iconst (v := nI 1) hx hb dX2_orderByQuotients_47 (by decide) ?_
                          refine lv_icmp_ne (tgt := 56) hx hb dX2_orderByQuotients_48 (by decide) (fun c48 => ?_) (fun c48 => ?_)
                          · have c48 : ¬ ((np x 85) = 1) := fun qq9 => c48 ((nI_eq (a := (np x 85)) (b := 1) (by first | omega | exact Nat.lt_of_le_of_lt Nat.and_le_right (by decide) | exact Nat.lt_trans (nm_lt _ _) (by decide) | exact Nat.lt_trans (np_lt _ _) (by decide) | exact Nat.lt_trans (p_at_lt htx) (by decide)) (by first | omega | exact Nat.lt_of_le_of_lt Nat.and_le_right (by decide) | exact Nat.lt_trans (nm_lt _ _) (by decide) | exact Nat.lt_trans (np_lt _ _) (by decide) | exact Nat.lt_trans (p_at_lt htx) (by decide))).mpr qq9)
                            refine lv_iinc (v := nI 4) (lv' := [(5, .int (nI 4)), (6, .int (nI 257)), (2, .int (nI 21845)), (4, .int (nI 4)), (3, .ref eO), (0, .ref a), (1, .int (nI x))]) hx hb dX2_orderByQuotients_56 hl (k := 1) rfl (by decide) (by decide) rfl (fun ls hl => ?_)
                            refine lv_goto (tgt := 20) hx hb dX2_orderByQuotients_59 (by decide) ?_
                            refine lv_iload hx hb dX2_orderByQuotients_20 (lv_at hl 0 rfl) ?_
                            refine lv_iload hx hb dX2_orderByQuotients_22 (lv_at hl 3 rfl) ?_
                            refine lv_icmp_ge (tgt := 62) hx hb dX2_orderByQuotients_24 (by decide) (fun c24 => ?_) (fun c24 => ?_)
                            · refine lv_iload_n hx hb dX2_orderByQuotients_62 rfl (lv_at hl 2 rfl) ?_
                              subst hQ
                              exact m_iret C0 hS dX2_orderByQuotients_63 (u := ()) hP (by rw [n_ord, if_neg (by omega)]; simp only [m_obP, Nat.reduceDiv, *, if_true, if_false])
                            · exact absurd c24 (by decide)
                          · have c48 : (np x 85) = 1 := (nI_eq (a := (np x 85)) (b := 1) (by first | omega | exact Nat.lt_of_le_of_lt Nat.and_le_right (by decide) | exact Nat.lt_trans (nm_lt _ _) (by decide) | exact Nat.lt_trans (np_lt _ _) (by decide) | exact Nat.lt_trans (p_at_lt htx) (by decide)) (by first | omega | exact Nat.lt_of_le_of_lt Nat.and_le_right (by decide) | exact Nat.lt_trans (nm_lt _ _) (by decide) | exact Nat.lt_trans (np_lt _ _) (by decide) | exact Nat.lt_trans (p_at_lt htx) (by decide))).mp c48
                            refine lv_iload_n hx hb dX2_orderByQuotients_51 rfl (lv_at hl 2 rfl) ?_
                            refine lv_iload hx hb dX2_orderByQuotients_52 (lv_at hl 0 rfl) ?_
                            refine lv_idiv hx hb dX2_orderByQuotients_54 (by decide) ?_
                            refine lv_topi (nm_r (show _ = nI 85 from by decide) ?_)
                            refine lv_istore_n (lv' := [(2, .int (nI 85)), (6, .int (nI 257)), (5, .int (nI 3)), (4, .int (nI 4)), (3, .ref eO), (0, .ref a), (1, .int (nI x))]) hx hb dX2_orderByQuotients_55 rfl hl (by decide) rfl (fun ls hl => ?_)
                            refine lv_iinc (v := nI 4) (lv' := [(5, .int (nI 4)), (2, .int (nI 85)), (6, .int (nI 257)), (4, .int (nI 4)), (3, .ref eO), (0, .ref a), (1, .int (nI x))]) hx hb dX2_orderByQuotients_56 hl (k := 2) rfl (by decide) (by decide) rfl (fun ls hl => ?_)
                            refine lv_goto (tgt := 20) hx hb dX2_orderByQuotients_59 (by decide) ?_
                            refine lv_iload hx hb dX2_orderByQuotients_20 (lv_at hl 0 rfl) ?_
                            refine lv_iload hx hb dX2_orderByQuotients_22 (lv_at hl 3 rfl) ?_
                            refine lv_icmp_ge (tgt := 62) hx hb dX2_orderByQuotients_24 (by decide) (fun c24 => ?_) (fun c24 => ?_)
                            · refine lv_iload_n hx hb dX2_orderByQuotients_62 rfl (lv_at hl 1 rfl) ?_
                              subst hQ
                              exact m_iret C0 hS dX2_orderByQuotients_63 (u := ()) hP (by rw [n_ord, if_neg (by omega)]; simp only [m_obP, Nat.reduceDiv, *, if_true, if_false])
                            · exact absurd c24 (by decide)
                    · have c48 : (np x 1285) = 1 := (nI_eq (a := (np x 1285)) (b := 1) (by first | omega | exact Nat.lt_of_le_of_lt Nat.and_le_right (by decide) | exact Nat.lt_trans (nm_lt _ _) (by decide) | exact Nat.lt_trans (np_lt _ _) (by decide) | exact Nat.lt_trans (p_at_lt htx) (by decide)) (by first | omega | exact Nat.lt_of_le_of_lt Nat.and_le_right (by decide) | exact Nat.lt_trans (nm_lt _ _) (by decide) | exact Nat.lt_trans (np_lt _ _) (by decide) | exact Nat.lt_trans (p_at_lt htx) (by decide))).mp c48
                      refine lv_iload_n hx hb dX2_orderByQuotients_51 rfl (lv_at hl 2 rfl) ?_
                      refine lv_iload hx hb dX2_orderByQuotients_52 (lv_at hl 0 rfl) ?_
                      refine lv_idiv hx hb dX2_orderByQuotients_54 (by decide) ?_
                      refine lv_topi (nm_r (show _ = nI 1285 from by decide) ?_)
                      refine lv_istore_n (lv' := [(2, .int (nI 1285)), (6, .int (nI 17)), (5, .int (nI 2)), (4, .int (nI 4)), (3, .ref eO), (0, .ref a), (1, .int (nI x))]) hx hb dX2_orderByQuotients_55 rfl hl (by decide) rfl (fun ls hl => ?_)
                      refine lv_iinc (v := nI 3) (lv' := [(5, .int (nI 3)), (2, .int (nI 1285)), (6, .int (nI 17)), (4, .int (nI 4)), (3, .ref eO), (0, .ref a), (1, .int (nI x))]) hx hb dX2_orderByQuotients_56 hl (k := 2) rfl (by decide) (by decide) rfl (fun ls hl => ?_)
                      refine lv_goto (tgt := 20) hx hb dX2_orderByQuotients_59 (by decide) ?_
                      refine lv_iload hx hb dX2_orderByQuotients_20 (lv_at hl 0 rfl) ?_
                      refine lv_iload hx hb dX2_orderByQuotients_22 (lv_at hl 3 rfl) ?_
                      refine lv_icmp_ge (tgt := 62) hx hb dX2_orderByQuotients_24 (by decide) (fun c24 => ?_) (fun c24 => ?_)
                      · exact absurd c24 (by decide)
                      · refine lv_aload_n hx hb dX2_orderByQuotients_27 rfl (lv_at hl 4 rfl) ?_
                        refine lv_iload hx hb dX2_orderByQuotients_28 (lv_at hl 0 rfl) ?_
                        refine va_ti hx hb htO hS (m_in (n := 3) (by decide) (by decide)) (v := .int (nI 257)) (by rw [nI_clamp (by decide)]; rfl) dX2_orderByQuotients_30 ?_
                        refine lv_istore (lv' := [(6, .int (nI 257)), (5, .int (nI 3)), (2, .int (nI 1285)), (4, .int (nI 4)), (3, .ref eO), (0, .ref a), (1, .int (nI x))]) hx hb dX2_orderByQuotients_31 hl (by decide) rfl (fun ls hl => ?_)
                        refine lv_iload hx hb dX2_orderByQuotients_33 (lv_at hl 0 rfl) ?_
                        refine lv_if_le (tgt := 56) hx hb dX2_orderByQuotients_35 (by decide) (fun c35 => ?_) (fun c35 => ?_)
                        · exact absurd c35 (by decide)
                        · refine lv_aload_n hx hb dX2_orderByQuotients_38 rfl (lv_at hl 5 rfl) ?_
                          refine lv_iload_n hx hb dX2_orderByQuotients_39 rfl (lv_at hl 6 rfl) ?_
                          refine lv_iload_n hx hb dX2_orderByQuotients_40 rfl (lv_at hl 2 rfl) ?_
                          refine lv_iload hx hb dX2_orderByQuotients_41 (lv_at hl 0 rfl) ?_
                          refine lv_idiv hx hb dX2_orderByQuotients_43 (by decide) ?_
                          refine lv_topi (nm_r (show _ = nI 5 from by decide) ?_)
                          refine m_callVi (As := [.int (nI x), .int (nI 5)]) (rest := []) C0 hl hP hD hS (c_X2_raised l D cY a b bp x 5 (by first | assumption | omega | exact nm_lt _ _ | exact np_lt _ _ | decide) (by first | assumption | omega | exact nm_lt _ _ | exact np_lt _ _ | decide) (by first | assumption | omega | exact nm_lt _ _ | exact np_lt _ _ | decide)) (cwV 2 hts gX2_orderByQuotients_X2_raised rfl rfl rfl (by decide +kernel) ⟨Nat.le_of_ble_eq_true rfl, Nat.le_of_ble_eq_true rfl⟩) dX2_orderByQuotients_44 [0, 1] rfl rfl 0 rfl rfl rfl rfl (Nat.le_of_ble_eq_true rfl) (Nat.zero_le _) (Nat.zero_le _) (fun _ => rfl) (fun r24 u H23 locs hw hP hD hS => ?_)
                          try dsimp only at hw
                          obtain rfl := hw
                          have hP : va_P D vwCl [(a, .inr (2, [.ref b])), (b, .inl (cY 0, 256, .inl (m_nf bp)))] H23 := hP
                          have hD : va_D A [(a, .inr (2, [.ref b])), (b, .inl (cY 0, 256, .inl (m_nf bp)))] := hD
                          refine lv_iconst (v := nI 1) hx hb dX2_orderByQuotients_47 (by decide) ?_
                          refine lv_icmp_ne (tgt := 56) hx hb dX2_orderByQuotients_48 (by decide) (fun c48 => ?_) (fun c48 => ?_)
                          · have c48 : ¬ ((np x 5) = 1) := fun qq9 => c48 ((nI_eq (a := (np x 5)) (b := 1) (by first | omega | exact Nat.lt_of_le_of_lt Nat.and_le_right (by decide) | exact Nat.lt_trans (nm_lt _ _) (by decide) | exact Nat.lt_trans (np_lt _ _) (by decide) | exact Nat.lt_trans (p_at_lt htx) (by decide)) (by first | omega | exact Nat.lt_of_le_of_lt Nat.and_le_right (by decide) | exact Nat.lt_trans (nm_lt _ _) (by decide) | exact Nat.lt_trans (np_lt _ _) (by decide) | exact Nat.lt_trans (p_at_lt htx) (by decide))).mpr qq9)
                            refine lv_iinc (v := nI 4) (lv' := [(5, .int (nI 4)), (6, .int (nI 257)), (2, .int (nI 1285)), (4, .int (nI 4)), (3, .ref eO), (0, .ref a), (1, .int (nI x))]) hx hb dX2_orderByQuotients_56 hl (k := 1) rfl (by decide) (by decide) rfl (fun ls hl => ?_)
                            refine lv_goto (tgt := 20) hx hb dX2_orderByQuotients_59 (by decide) ?_
                            refine lv_iload hx hb dX2_orderByQuotients_20 (lv_at hl 0 rfl) ?_
                            refine lv_iload hx hb dX2_orderByQuotients_22 (lv_at hl 3 rfl) ?_
                            refine lv_icmp_ge (tgt := 62) hx hb dX2_orderByQuotients_24 (by decide) (fun c24 => ?_) (fun c24 => ?_)
                            · refine lv_iload_n hx hb dX2_orderByQuotients_62 rfl (lv_at hl 2 rfl) ?_
                              subst hQ
                              exact m_iret C0 hS dX2_orderByQuotients_63 (u := ()) hP (by rw [n_ord, if_neg (by omega)]; simp only [m_obP, Nat.reduceDiv, *, if_true, if_false])
                            · exact absurd c24 (by decide)
                          · have c48 : (np x 5) = 1 := (nI_eq (a := (np x 5)) (b := 1) (by first | omega | exact Nat.lt_of_le_of_lt Nat.and_le_right (by decide) | exact Nat.lt_trans (nm_lt _ _) (by decide) | exact Nat.lt_trans (np_lt _ _) (by decide) | exact Nat.lt_trans (p_at_lt htx) (by decide)) (by first | omega | exact Nat.lt_of_le_of_lt Nat.and_le_right (by decide) | exact Nat.lt_trans (nm_lt _ _) (by decide) | exact Nat.lt_trans (np_lt _ _) (by decide) | exact Nat.lt_trans (p_at_lt htx) (by decide))).mp c48
                            refine lv_iload_n hx hb dX2_orderByQuotients_51 rfl (lv_at hl 2 rfl) ?_
                            refine lv_iload hx hb dX2_orderByQuotients_52 (lv_at hl 0 rfl) ?_
                            refine lv_idiv hx hb dX2_orderByQuotients_54 (by decide) ?_
                            refine lv_topi (nm_r (show _ = nI 5 from by decide) ?_)
                            refine lv_istore_n (lv' := [(2, .int (nI 5)), (6, .int (nI 257)), (5, .int (nI 3)), (4, .int (nI 4)), (3, .ref eO), (0, .ref a), (1, .int (nI x))]) hx hb dX2_orderByQuotients_55 rfl hl (by decide) rfl (fun ls hl => ?_)
                            refine lv_iinc (v := nI 4) (lv' := [(5, .int (nI 4)), (2, .int (nI 5)), (6, .int (nI 257)), (4, .int (nI 4)), (3, .ref eO), (0, .ref a), (1, .int (nI x))]) hx hb dX2_orderByQuotients_56 hl (k := 2) rfl (by decide) (by decide) rfl (fun ls hl => ?_)
                            refine lv_goto (tgt := 20) hx hb dX2_orderByQuotients_59 (by decide) ?_
                            refine lv_iload hx hb dX2_orderByQuotients_20 (lv_at hl 0 rfl) ?_
                            refine lv_iload hx hb dX2_orderByQuotients_22 (lv_at hl 3 rfl) ?_
                            refine lv_icmp_ge (tgt := 62) hx hb dX2_orderByQuotients_24 (by decide) (fun c24 => ?_) (fun c24 => ?_)
                            · refine lv_iload_n hx hb dX2_orderByQuotients_62 rfl (lv_at hl 1 rfl) ?_
                              subst hQ
                              exact m_iret C0 hS dX2_orderByQuotients_63 (u := ()) hP (by rw [n_ord, if_neg (by omega)]; simp only [m_obP, Nat.reduceDiv, *, if_true, if_false])
                            · exact absurd c24 (by decide)
              · have c48 : (np x 4369) = 1 := (nI_eq (a := (np x 4369)) (b := 1) (by first | omega | exact Nat.lt_of_le_of_lt Nat.and_le_right (by decide) | exact Nat.lt_trans (nm_lt _ _) (by decide) | exact Nat.lt_trans (np_lt _ _) (by decide) | exact Nat.lt_trans (p_at_lt htx) (by decide)) (by first | omega | exact Nat.lt_of_le_of_lt Nat.and_le_right (by decide) | exact Nat.lt_trans (nm_lt _ _) (by decide) | exact Nat.lt_trans (np_lt _ _) (by decide) | exact Nat.lt_trans (p_at_lt htx) (by decide))).mp c48
                refine lv_iload_n hx hb dX2_orderByQuotients_51 rfl (lv_at hl 2 rfl) ?_
                refine lv_iload hx hb dX2_orderByQuotients_52 (lv_at hl 0 rfl) ?_
                refine lv_idiv hx hb dX2_orderByQuotients_54 (by decide) ?_
                refine lv_topi (nm_r (show _ = nI 4369 from by decide) ?_)
                refine lv_istore_n (lv' := [(2, .int (nI 4369)), (6, .int (nI 5)), (5, .int (nI 1)), (4, .int (nI 4)), (3, .ref eO), (0, .ref a), (1, .int (nI x))]) hx hb dX2_orderByQuotients_55 rfl hl (by decide) rfl (fun ls hl => ?_)
                refine lv_iinc (v := nI 2) (lv' := [(5, .int (nI 2)), (2, .int (nI 4369)), (6, .int (nI 5)), (4, .int (nI 4)), (3, .ref eO), (0, .ref a), (1, .int (nI x))]) hx hb dX2_orderByQuotients_56 hl (k := 2) rfl (by decide) (by decide) rfl (fun ls hl => ?_)
                refine lv_goto (tgt := 20) hx hb dX2_orderByQuotients_59 (by decide) ?_
                refine lv_iload hx hb dX2_orderByQuotients_20 (lv_at hl 0 rfl) ?_
                refine lv_iload hx hb dX2_orderByQuotients_22 (lv_at hl 3 rfl) ?_
                refine lv_icmp_ge (tgt := 62) hx hb dX2_orderByQuotients_24 (by decide) (fun c24 => ?_) (fun c24 => ?_)
                · exact absurd c24 (by decide)
                · refine lv_aload_n hx hb dX2_orderByQuotients_27 rfl (lv_at hl 4 rfl) ?_
                  refine lv_iload hx hb dX2_orderByQuotients_28 (lv_at hl 0 rfl) ?_
                  refine va_ti hx hb htO hS (m_in (n := 2) (by decide) (by decide)) (v := .int (nI 17)) (by rw [nI_clamp (by decide)]; rfl) dX2_orderByQuotients_30 ?_
                  refine lv_istore (lv' := [(6, .int (nI 17)), (5, .int (nI 2)), (2, .int (nI 4369)), (4, .int (nI 4)), (3, .ref eO), (0, .ref a), (1, .int (nI x))]) hx hb dX2_orderByQuotients_31 hl (by decide) rfl (fun ls hl => ?_)
                  refine lv_iload hx hb dX2_orderByQuotients_33 (lv_at hl 0 rfl) ?_
                  refine lv_if_le (tgt := 56) hx hb dX2_orderByQuotients_35 (by decide) (fun c35 => ?_) (fun c35 => ?_)
                  · exact absurd c35 (by decide)
                  · refine lv_aload_n hx hb dX2_orderByQuotients_38 rfl (lv_at hl 5 rfl) ?_
                    refine lv_iload_n hx hb dX2_orderByQuotients_39 rfl (lv_at hl 6 rfl) ?_
                    refine lv_iload_n hx hb dX2_orderByQuotients_40 rfl (lv_at hl 2 rfl) ?_
                    refine lv_iload hx hb dX2_orderByQuotients_41 (lv_at hl 0 rfl) ?_
                    refine lv_idiv hx hb dX2_orderByQuotients_43 (by decide) ?_
                    refine lv_topi (nm_r (show _ = nI 257 from by decide) ?_)
                    refine m_callVi (As := [.int (nI x), .int (nI 257)]) (rest := []) C0 hl hP hD hS (c_X2_raised l D cY a b bp x 257 (by first | assumption | omega | exact nm_lt _ _ | exact np_lt _ _ | decide) (by first | assumption | omega | exact nm_lt _ _ | exact np_lt _ _ | decide) (by first | assumption | omega | exact nm_lt _ _ | exact np_lt _ _ | decide)) (cwV 2 hts gX2_orderByQuotients_X2_raised rfl rfl rfl (by decide +kernel) ⟨Nat.le_of_ble_eq_true rfl, Nat.le_of_ble_eq_true rfl⟩) dX2_orderByQuotients_44 [0, 1] rfl rfl 0 rfl rfl rfl rfl (Nat.le_of_ble_eq_true rfl) (Nat.zero_le _) (Nat.zero_le _) (fun _ => rfl) (fun r26 u H25 locs hw hP hD hS => ?_)
                    try dsimp only at hw
                    obtain rfl := hw
                    have hP : va_P D vwCl [(a, .inr (2, [.ref b])), (b, .inl (cY 0, 256, .inl (m_nf bp)))] H25 := hP
                    have hD : va_D A [(a, .inr (2, [.ref b])), (b, .inl (cY 0, 256, .inl (m_nf bp)))] := hD
                    refine lv_iconst (v := nI 1) hx hb dX2_orderByQuotients_47 (by decide) ?_
                    refine lv_icmp_ne (tgt := 56) hx hb dX2_orderByQuotients_48 (by decide) (fun c48 => ?_) (fun c48 => ?_)
                    · have c48 : ¬ ((np x 257) = 1) := fun qq9 => c48 ((nI_eq (a := (np x 257)) (b := 1) (by first | omega | exact Nat.lt_of_le_of_lt Nat.and_le_right (by decide) | exact Nat.lt_trans (nm_lt _ _) (by decide) | exact Nat.lt_trans (np_lt _ _) (by decide) | exact Nat.lt_trans (p_at_lt htx) (by decide)) (by first | omega | exact Nat.lt_of_le_of_lt Nat.and_le_right (by decide) | exact Nat.lt_trans (nm_lt _ _) (by decide) | exact Nat.lt_trans (np_lt _ _) (by decide) | exact Nat.lt_trans (p_at_lt htx) (by decide))).mpr qq9)
                      refine lv_iinc (v := nI 3) (lv' := [(5, .int (nI 3)), (6, .int (nI 17)), (2, .int (nI 4369)), (4, .int (nI 4)), (3, .ref eO), (0, .ref a), (1, .int (nI x))]) hx hb dX2_orderByQuotients_56 hl (k := 1) rfl (by decide) (by decide) rfl (fun ls hl => ?_)
                      refine lv_goto (tgt := 20) hx hb dX2_orderByQuotients_59 (by decide) ?_
                      refine lv_iload hx hb dX2_orderByQuotients_20 (lv_at hl 0 rfl) ?_
                      refine lv_iload hx hb dX2_orderByQuotients_22 (lv_at hl 3 rfl) ?_
                      refine lv_icmp_ge (tgt := 62) hx hb dX2_orderByQuotients_24 (by decide) (fun c24 => ?_) (fun c24 => ?_)
                      · exact absurd c24 (by decide)
                      · refine lv_aload_n hx hb dX2_orderByQuotients_27 rfl (lv_at hl 4 rfl) ?_
                        refine lv_iload hx hb dX2_orderByQuotients_28 (lv_at hl 0 rfl) ?_
                        refine va_ti hx hb htO hS (m_in (n := 3) (by decide) (by decide)) (v := .int (nI 257)) (by rw [nI_clamp (by decide)]; rfl) dX2_orderByQuotients_30 ?_
                        refine lv_istore (lv' := [(6, .int (nI 257)), (5, .int (nI 3)), (2, .int (nI 4369)), (4, .int (nI 4)), (3, .ref eO), (0, .ref a), (1, .int (nI x))]) hx hb dX2_orderByQuotients_31 hl (by decide) rfl (fun ls hl => ?_)
                        refine lv_iload hx hb dX2_orderByQuotients_33 (lv_at hl 0 rfl) ?_
                        refine lv_if_le (tgt := 56) hx hb dX2_orderByQuotients_35 (by decide) (fun c35 => ?_) (fun c35 => ?_)
                        · exact absurd c35 (by decide)
                        · refine lv_aload_n hx hb dX2_orderByQuotients_38 rfl (lv_at hl 5 rfl) ?_
                          refine lv_iload_n hx hb dX2_orderByQuotients_39 rfl (lv_at hl 6 rfl) ?_
                          refine lv_iload_n hx hb dX2_orderByQuotients_40 rfl (lv_at hl 2 rfl) ?_
                          refine lv_iload hx hb dX2_orderByQuotients_41 (lv_at hl 0 rfl) ?_
                          refine lv_idiv hx hb dX2_orderByQuotients_43 (by decide) ?_
                          refine lv_topi (nm_r (show _ = nI 17 from by decide) ?_)
                          refine m_callVi (As := [.int (nI x), .int (nI 17)]) (rest := []) C0 hl hP hD hS (c_X2_raised l D cY a b bp x 17 (by first | assumption | omega | exact nm_lt _ _ | exact np_lt _ _ | decide) (by first | assumption | omega | exact nm_lt _ _ | exact np_lt _ _ | decide) (by first | assumption | omega | exact nm_lt _ _ | exact np_lt _ _ | decide)) (cwV 2 hts gX2_orderByQuotients_X2_raised rfl rfl rfl (by decide +kernel) ⟨Nat.le_of_ble_eq_true rfl, Nat.le_of_ble_eq_true rfl⟩) dX2_orderByQuotients_44 [0, 1] rfl rfl 0 rfl rfl rfl rfl (Nat.le_of_ble_eq_true rfl) (Nat.zero_le _) (Nat.zero_le _) (fun _ => rfl) (fun r28 u H27 locs hw hP hD hS => ?_)
                          try dsimp only at hw
                          obtain rfl := hw
                          have hP : va_P D vwCl [(a, .inr (2, [.ref b])), (b, .inl (cY 0, 256, .inl (m_nf bp)))] H27 := hP
                          have hD : va_D A [(a, .inr (2, [.ref b])), (b, .inl (cY 0, 256, .inl (m_nf bp)))] := hD
                          refine lv_iconst (v := nI 1) hx hb dX2_orderByQuotients_47 (by decide) ?_
                          refine lv_icmp_ne (tgt := 56) hx hb dX2_orderByQuotients_48 (by decide) (fun c48 => ?_) (fun c48 => ?_)
                          · have c48 : ¬ ((np x 17) = 1) := fun qq9 => c48 ((nI_eq (a := (np x 17)) (b := 1) (by first | omega | exact Nat.lt_of_le_of_lt Nat.and_le_right (by decide) | exact Nat.lt_trans (nm_lt _ _) (by decide) | exact Nat.lt_trans (np_lt _ _) (by decide) | exact Nat.lt_trans (p_at_lt htx) (by decide)) (by first | omega | exact Nat.lt_of_le_of_lt Nat.and_le_right (by decide) | exact Nat.lt_trans (nm_lt _ _) (by decide) | exact Nat.lt_trans (np_lt _ _) (by decide) | exact Nat.lt_trans (p_at_lt htx) (by decide))).mpr qq9)
                            refine lv_iinc (v := nI 4) (lv' := [(5, .int (nI 4)), (6, .int (nI 257)), (2, .int (nI 4369)), (4, .int (nI 4)), (3, .ref eO), (0, .ref a), (1, .int (nI x))]) hx hb dX2_orderByQuotients_56 hl (k := 1) rfl (by decide) (by decide) rfl (fun ls hl => ?_)
                            refine lv_goto (tgt := 20) hx hb dX2_orderByQuotients_59 (by decide) ?_
                            refine lv_iload hx hb dX2_orderByQuotients_20 (lv_at hl 0 rfl) ?_
                            refine lv_iload hx hb dX2_orderByQuotients_22 (lv_at hl 3 rfl) ?_
                            refine lv_icmp_ge (tgt := 62) hx hb dX2_orderByQuotients_24 (by decide) (fun c24 => ?_) (fun c24 => ?_)
                            · refine lv_iload_n hx hb dX2_orderByQuotients_62 rfl (lv_at hl 2 rfl) ?_
                              subst hQ
                              exact m_iret C0 hS dX2_orderByQuotients_63 (u := ()) hP (by rw [n_ord, if_neg (by omega)]; simp only [m_obP, Nat.reduceDiv, *, if_true, if_false])
                            · exact absurd c24 (by decide)
                          · have c48 : (np x 17) = 1 := (nI_eq (a := (np x 17)) (b := 1) (by first | omega | exact Nat.lt_of_le_of_lt Nat.and_le_right (by decide) | exact Nat.lt_trans (nm_lt _ _) (by decide) | exact Nat.lt_trans (np_lt _ _) (by decide) | exact Nat.lt_trans (p_at_lt htx) (by decide)) (by first | omega | exact Nat.lt_of_le_of_lt Nat.and_le_right (by decide) | exact Nat.lt_trans (nm_lt _ _) (by decide) | exact Nat.lt_trans (np_lt _ _) (by decide) | exact Nat.lt_trans (p_at_lt htx) (by decide))).mp c48
                            refine lv_iload_n hx hb dX2_orderByQuotients_51 rfl (lv_at hl 2 rfl) ?_
                            refine lv_iload hx hb dX2_orderByQuotients_52 (lv_at hl 0 rfl) ?_
                            refine lv_idiv hx hb dX2_orderByQuotients_54 (by decide) ?_
                            refine lv_topi (nm_r (show _ = nI 17 from by decide) ?_)
                            refine lv_istore_n (lv' := [(2, .int (nI 17)), (6, .int (nI 257)), (5, .int (nI 3)), (4, .int (nI 4)), (3, .ref eO), (0, .ref a), (1, .int (nI x))]) hx hb dX2_orderByQuotients_55 rfl hl (by decide) rfl (fun ls hl => ?_)
                            refine lv_iinc (v := nI 4) (lv' := [(5, .int (nI 4)), (2, .int (nI 17)), (6, .int (nI 257)), (4, .int (nI 4)), (3, .ref eO), (0, .ref a), (1, .int (nI x))]) hx hb dX2_orderByQuotients_56 hl (k := 2) rfl (by decide) (by decide) rfl (fun ls hl => ?_)
                            refine lv_goto (tgt := 20) hx hb dX2_orderByQuotients_59 (by decide) ?_
                            refine lv_iload hx hb dX2_orderByQuotients_20 (lv_at hl 0 rfl) ?_
                            refine lv_iload hx hb dX2_orderByQuotients_22 (lv_at hl 3 rfl) ?_
                            refine lv_icmp_ge (tgt := 62) hx hb dX2_orderByQuotients_24 (by decide) (fun c24 => ?_) (fun c24 => ?_)
                            · refine lv_iload_n hx hb dX2_orderByQuotients_62 rfl (lv_at hl 1 rfl) ?_
                              subst hQ
                              exact m_iret C0 hS dX2_orderByQuotients_63 (u := ()) hP (by rw [n_ord, if_neg (by omega)]; simp only [m_obP, Nat.reduceDiv, *, if_true, if_false])
                            · exact absurd c24 (by decide)
                    · have c48 : (np x 257) = 1 := (nI_eq (a := (np x 257)) (b := 1) (by first | omega | exact Nat.lt_of_le_of_lt Nat.and_le_right (by decide) | exact Nat.lt_trans (nm_lt _ _) (by decide) | exact Nat.lt_trans (np_lt _ _) (by decide) | exact Nat.lt_trans (p_at_lt htx) (by decide)) (by first | omega | exact Nat.lt_of_le_of_lt Nat.and_le_right (by decide) | exact Nat.lt_trans (nm_lt _ _) (by decide) | exact Nat.lt_trans (np_lt _ _) (by decide) | exact Nat.lt_trans (p_at_lt htx) (by decide))).mp c48
                      refine lv_iload_n hx hb dX2_orderByQuotients_51 rfl (lv_at hl 2 rfl) ?_
                      refine lv_iload hx hb dX2_orderByQuotients_52 (lv_at hl 0 rfl) ?_
                      refine lv_idiv hx hb dX2_orderByQuotients_54 (by decide) ?_
                      refine lv_topi (nm_r (show _ = nI 257 from by decide) ?_)
                      refine lv_istore_n (lv' := [(2, .int (nI 257)), (6, .int (nI 17)), (5, .int (nI 2)), (4, .int (nI 4)), (3, .ref eO), (0, .ref a), (1, .int (nI x))]) hx hb dX2_orderByQuotients_55 rfl hl (by decide) rfl (fun ls hl => ?_)
                      refine lv_iinc (v := nI 3) (lv' := [(5, .int (nI 3)), (2, .int (nI 257)), (6, .int (nI 17)), (4, .int (nI 4)), (3, .ref eO), (0, .ref a), (1, .int (nI x))]) hx hb dX2_orderByQuotients_56 hl (k := 2) rfl (by decide) (by decide) rfl (fun ls hl => ?_)
                      refine lv_goto (tgt := 20) hx hb dX2_orderByQuotients_59 (by decide) ?_
                      refine lv_iload hx hb dX2_orderByQuotients_20 (lv_at hl 0 rfl) ?_
                      refine lv_iload hx hb dX2_orderByQuotients_22 (lv_at hl 3 rfl) ?_
                      refine lv_icmp_ge (tgt := 62) hx hb dX2_orderByQuotients_24 (by decide) (fun c24 => ?_) (fun c24 => ?_)
                      · exact absurd c24 (by decide)
                      · refine lv_aload_n hx hb dX2_orderByQuotients_27 rfl (lv_at hl 4 rfl) ?_
                        refine lv_iload hx hb dX2_orderByQuotients_28 (lv_at hl 0 rfl) ?_
                        refine va_ti hx hb htO hS (m_in (n := 3) (by decide) (by decide)) (v := .int (nI 257)) (by rw [nI_clamp (by decide)]; rfl) dX2_orderByQuotients_30 ?_
                        refine lv_istore (lv' := [(6, .int (nI 257)), (5, .int (nI 3)), (2, .int (nI 257)), (4, .int (nI 4)), (3, .ref eO), (0, .ref a), (1, .int (nI x))]) hx hb dX2_orderByQuotients_31 hl (by decide) rfl (fun ls hl => ?_)
                        refine lv_iload hx hb dX2_orderByQuotients_33 (lv_at hl 0 rfl) ?_
                        refine lv_if_le (tgt := 56) hx hb dX2_orderByQuotients_35 (by decide) (fun c35 => ?_) (fun c35 => ?_)
                        · exact absurd c35 (by decide)
                        · refine lv_aload_n hx hb dX2_orderByQuotients_38 rfl (lv_at hl 5 rfl) ?_
                          refine lv_iload_n hx hb dX2_orderByQuotients_39 rfl (lv_at hl 6 rfl) ?_
                          refine lv_iload_n hx hb dX2_orderByQuotients_40 rfl (lv_at hl 2 rfl) ?_
                          refine lv_iload hx hb dX2_orderByQuotients_41 (lv_at hl 0 rfl) ?_
                          refine lv_idiv hx hb dX2_orderByQuotients_43 (by decide) ?_
                          refine lv_topi (nm_r (show _ = nI 1 from by decide) ?_)
                          refine m_callVi (As := [.int (nI x), .int (nI 1)]) (rest := []) C0 hl hP hD hS (c_X2_raised l D cY a b bp x 1 (by first | assumption | omega | exact nm_lt _ _ | exact np_lt _ _ | decide) (by first | assumption | omega | exact nm_lt _ _ | exact np_lt _ _ | decide) (by first | assumption | omega | exact nm_lt _ _ | exact np_lt _ _ | decide)) (cwV 2 hts gX2_orderByQuotients_X2_raised rfl rfl rfl (by decide +kernel) ⟨Nat.le_of_ble_eq_true rfl, Nat.le_of_ble_eq_true rfl⟩) dX2_orderByQuotients_44 [0, 1] rfl rfl 0 rfl rfl rfl rfl (Nat.le_of_ble_eq_true rfl) (Nat.zero_le _) (Nat.zero_le _) (fun _ => rfl) (fun r30 u H29 locs hw hP hD hS => ?_)
                          try dsimp only at hw
                          obtain rfl := hw
                          have hP : va_P D vwCl [(a, .inr (2, [.ref b])), (b, .inl (cY 0, 256, .inl (m_nf bp)))] H29 := hP
                          have hD : va_D A [(a, .inr (2, [.ref b])), (b, .inl (cY 0, 256, .inl (m_nf bp)))] := hD
                          refine lv_iconst (v := nI 1) hx hb dX2_orderByQuotients_47 (by decide) ?_
                          refine lv_icmp_ne (tgt := 56) hx hb dX2_orderByQuotients_48 (by decide) (fun c48 => ?_) (fun c48 => ?_)
                          · have c48 : ¬ ((np x 1) = 1) := fun qq9 => c48 ((nI_eq (a := (np x 1)) (b := 1) (by first | omega | exact Nat.lt_of_le_of_lt Nat.and_le_right (by decide) | exact Nat.lt_trans (nm_lt _ _) (by decide) | exact Nat.lt_trans (np_lt _ _) (by decide) | exact Nat.lt_trans (p_at_lt htx) (by decide)) (by first | omega | exact Nat.lt_of_le_of_lt Nat.and_le_right (by decide) | exact Nat.lt_trans (nm_lt _ _) (by decide) | exact Nat.lt_trans (np_lt _ _) (by decide) | exact Nat.lt_trans (p_at_lt htx) (by decide))).mpr qq9)
                            refine lv_iinc (v := nI 4) (lv' := [(5, .int (nI 4)), (6, .int (nI 257)), (2, .int (nI 257)), (4, .int (nI 4)), (3, .ref eO), (0, .ref a), (1, .int (nI x))]) hx hb dX2_orderByQuotients_56 hl (k := 1) rfl (by decide) (by decide) rfl (fun ls hl => ?_)
                            refine lv_goto (tgt := 20) hx hb dX2_orderByQuotients_59 (by decide) ?_
                            refine lv_iload hx hb dX2_orderByQuotients_20 (lv_at hl 0 rfl) ?_
                            refine lv_iload hx hb dX2_orderByQuotients_22 (lv_at hl 3 rfl) ?_
                            refine lv_icmp_ge (tgt := 62) hx hb dX2_orderByQuotients_24 (by decide) (fun c24 => ?_) (fun c24 => ?_)
                            · refine lv_iload_n hx hb dX2_orderByQuotients_62 rfl (lv_at hl 2 rfl) ?_
                              subst hQ
                              exact m_iret C0 hS dX2_orderByQuotients_63 (u := ()) hP (by rw [n_ord, if_neg (by omega)]; simp only [m_obP, Nat.reduceDiv, *, if_true, if_false])
                            · exact absurd c24 (by decide)
                          · have c48 : (np x 1) = 1 := (nI_eq (a := (np x 1)) (b := 1) (by first | omega | exact Nat.lt_of_le_of_lt Nat.and_le_right (by decide) | exact Nat.lt_trans (nm_lt _ _) (by decide) | exact Nat.lt_trans (np_lt _ _) (by decide) | exact Nat.lt_trans (p_at_lt htx) (by decide)) (by first | omega | exact Nat.lt_of_le_of_lt Nat.and_le_right (by decide) | exact Nat.lt_trans (nm_lt _ _) (by decide) | exact Nat.lt_trans (np_lt _ _) (by decide) | exact Nat.lt_trans (p_at_lt htx) (by decide))).mp c48
                            refine lv_iload_n hx hb dX2_orderByQuotients_51 rfl (lv_at hl 2 rfl) ?_
                            refine lv_iload hx hb dX2_orderByQuotients_52 (lv_at hl 0 rfl) ?_
                            refine lv_idiv hx hb dX2_orderByQuotients_54 (by decide) ?_
                            refine lv_topi (nm_r (show _ = nI 1 from by decide) ?_)
                            refine lv_istore_n (lv' := [(2, .int (nI 1)), (6, .int (nI 257)), (5, .int (nI 3)), (4, .int (nI 4)), (3, .ref eO), (0, .ref a), (1, .int (nI x))]) hx hb dX2_orderByQuotients_55 rfl hl (by decide) rfl (fun ls hl => ?_)
                            refine lv_iinc (v := nI 4) (lv' := [(5, .int (nI 4)), (2, .int (nI 1)), (6, .int (nI 257)), (4, .int (nI 4)), (3, .ref eO), (0, .ref a), (1, .int (nI x))]) hx hb dX2_orderByQuotients_56 hl (k := 2) rfl (by decide) (by decide) rfl (fun ls hl => ?_)
                            refine lv_goto (tgt := 20) hx hb dX2_orderByQuotients_59 (by decide) ?_
                            refine lv_iload hx hb dX2_orderByQuotients_20 (lv_at hl 0 rfl) ?_
                            refine lv_iload hx hb dX2_orderByQuotients_22 (lv_at hl 3 rfl) ?_
                            refine lv_icmp_ge (tgt := 62) hx hb dX2_orderByQuotients_24 (by decide) (fun c24 => ?_) (fun c24 => ?_)
                            · refine lv_iload_n hx hb dX2_orderByQuotients_62 rfl (lv_at hl 1 rfl) ?_
                              subst hQ
                              exact m_iret C0 hS dX2_orderByQuotients_63 (u := ()) hP (by rw [n_ord, if_neg (by omega)]; simp only [m_obP, Nat.reduceDiv, *, if_true, if_false])
                            · exact absurd c24 (by decide)
  · have c1 : x = 0 := (nI_eq (a := x) (b := 0) (by first | omega | exact Nat.lt_of_le_of_lt Nat.and_le_right (by decide) | exact Nat.lt_trans (nm_lt _ _) (by decide) | exact Nat.lt_trans (np_lt _ _) (by decide) | exact Nat.lt_trans (p_at_lt htx) (by decide)) (by first | omega | exact Nat.lt_of_le_of_lt Nat.and_le_right (by decide) | exact Nat.lt_trans (nm_lt _ _) (by decide) | exact Nat.lt_trans (np_lt _ _) (by decide) | exact Nat.lt_trans (p_at_lt htx) (by decide))).mp c1
    refine lv_iconst (v := (-1)) hx hb dX2_orderByQuotients_4 (by decide) ?_
    subst hQ
    exact m_iret C0 hS dX2_orderByQuotients_5 (u := ()) hP (by rw [n_ord, if_pos (by omega)])
set_option maxHeartbeats 4000000 in
set_option maxRecDepth 100000 in
theorem c_X6_orderByDivisors (l : Launch) (hfl : l.stackTraces = false) (D : va_G) (cY : Nat → ClassId) (eS : Nat → Nat) (eO : Nat) (nx fd tb pr ad rd wd h sk : Nat) (fb : Nat) (bp : Nat → Nat) (x : Nat) (hB : n_bp bp) (hxx : x < 65536) : m_Me l yX6_orderByDivisors wsX6_orderByDivisors 3 76 0 0 D cY eS eO [.ref nx, .int (nI x)] [(nx, .inr (6, [.ref fd, .ref tb, .ref pr, .ref ad, .ref rd, .ref wd, .ref h, .int (nI sk)])), (fd, .inr (2, [.ref fb])), (fb, .inl (cY 0, 256, .inl (m_nf bp)))] (fun (res : Int32) (u : Unit) => res = n_ord x) (fun (u : Unit) => [(nx, .inr (6, [.ref fd, .ref tb, .ref pr, .ref ad, .ref rd, .ref wd, .ref h, .int (nI sk)])), (fd, .inr (2, [.ref fb])), (fb, .inl (cY 0, 256, .inl (m_nf bp)))]) := by
  refine m_enterE (cc := cX6_orderByDivisors) (maxL := 2) (ret := (some .int)) (by decide +kernel) rfl (Nat.le_of_ble_eq_true rfl) ?_
  intro p e s m below meth c A ls C0 hE hP hD hl
  obtain ⟨hx, hb, hr, hml, hts, hown, hlocks, hK, hA⟩ := id C0
  obtain ⟨hz1, hz2, ⟨hcIO, hcIA, hcIS⟩, hdcl, ⟨hs0, hs1, hs2, hs3, hs4, hs5, hs6, hs7⟩, ⟨hn1, hn2⟩, ⟨hl0, hl1, hl2, hl3, hl4⟩, hzO, htO⟩ := id hE
  generalize hQ : MQ below _ _ s 0 0 A = Q
  have hS : va_S A s.heap s.heap [] := va_S.rf
  have hl : lv_has ls 2 [(0, .ref nx), (1, .int (nI x))] := hl
  have hwd0 := hts (.constant RX6 58 (65535)) (by decide +kernel)
  have hwd1 := hts (.fieldLink RX6 12 "NimberField" "field" "LNimberField$Nimbers;") (by decide +kernel)
  have hwd2 := (show ∀ w ∈ u_ws RX6 TX6 8, w ∈ wsX6_orderByDivisors from by decide +kernel)
  refine lv_iload_n hx hb dX6_orderByDivisors_0 rfl (lv_at hl 1 rfl) ?_
  refine lv_ldc hx hb hown hwd0 dX6_orderByDivisors_1 ?_
  refine lv_topi (nm_r (show ((65535 : Int32)) = nI 65535 from by decide) ?_)
  refine m_callSv (As := [.int (nI x), .int (nI 65535)]) (rest := []) C0 hl hP hD hS (c_X6_requireRange l D cY x 65535 (by omega) (by decide)) (va_cwS 2 hts gX6_orderByDivisors_X6_requireRange rfl rfl rfl (by decide +kernel) ⟨Nat.le_of_ble_eq_true rfl, Nat.le_of_ble_eq_true rfl⟩) dX6_orderByDivisors_3 [] rfl rfl rfl (Nat.le_of_ble_eq_true rfl) (Nat.zero_le _) (Nat.zero_le _) (fun _ => rfl) (fun u H1 locs hw hP hD hS => ?_)
  try dsimp only at hw
  clear hw
  have hP : va_P D vwCl [(nx, .inr (6, [.ref fd, .ref tb, .ref pr, .ref ad, .ref rd, .ref wd, .ref h, .int (nI sk)])), (fd, .inr (2, [.ref fb])), (fb, .inl (cY 0, 256, .inl (m_nf bp)))] H1 := hP
  have hD : va_D A [(nx, .inr (6, [.ref fd, .ref tb, .ref pr, .ref ad, .ref rd, .ref wd, .ref h, .int (nI sk)])), (fd, .inr (2, [.ref fb])), (fb, .inl (cY 0, 256, .inl (m_nf bp)))] := hD
  refine lv_aload_n hx hb dX6_orderByDivisors_6 rfl (lv_at hl 0 rfl) ?_
  refine va_get (D := D) (ci := 6) (v := .ref fd) (C := RX6) (T := TX6) (N := 8) hx hb hts hwd2 hown hK hP 0 rfl rfl 0 (by decide) hwd1 (fun _ h9 => h9) rfl dX6_orderByDivisors_7 ?_
  refine lv_iload_n hx hb dX6_orderByDivisors_10 rfl (lv_at hl 1 rfl) ?_
  refine m_callVe (As := [.int (nI x)]) (rest := []) C0 hE hl hP hD hS (c_X2_orderByQuotients l hfl D cY eS eO fd fb bp x (by first | assumption | omega | exact nm_lt _ _ | exact np_lt _ _ | decide) (by first | assumption | omega | exact nm_lt _ _ | exact np_lt _ _ | decide)) (cwV 1 hts gX6_orderByDivisors_X2_orderByQuotients rfl rfl rfl (by decide +kernel) ⟨Nat.le_of_ble_eq_true rfl, Nat.le_of_ble_eq_true rfl⟩) dX6_orderByDivisors_11 [1, 2] rfl rfl 1 rfl rfl rfl rfl (Nat.le_of_ble_eq_true rfl) (Nat.zero_le _) (Nat.zero_le _) (fun _ => rfl) (fun r3 u H2 locs hw hP hD hS => ?_)
  try dsimp only at hw
  obtain rfl := hw
  have hP : va_P D vwCl [(nx, .inr (6, [.ref fd, .ref tb, .ref pr, .ref ad, .ref rd, .ref wd, .ref h, .int (nI sk)])), (fd, .inr (2, [.ref fb])), (fb, .inl (cY 0, 256, .inl (m_nf bp)))] H2 := hP
  have hD : va_D A [(nx, .inr (6, [.ref fd, .ref tb, .ref pr, .ref ad, .ref rd, .ref wd, .ref h, .int (nI sk)])), (fd, .inr (2, [.ref fb])), (fb, .inl (cY 0, 256, .inl (m_nf bp)))] := hD
  subst hQ
  exact m_iret C0 hS dX6_orderByDivisors_14 (u := ()) hP (by first | trivial | rfl | omega)
set_option maxHeartbeats 4000000 in
set_option maxRecDepth 100000 in
theorem c_X6_orderByDivisors_x1 (l : Launch) (hfl : l.stackTraces = false) (D : va_G) (cY : Nat → ClassId) (eS : Nat → Nat) (eO : Nat) (nx fd tb pr ad rd wd h sk : Nat) (x : Int32) (hn : ¬ m_isN x) : m_Mx l yX6_orderByDivisors wsX6_orderByDivisors 7 117 D cY eS eO [.ref nx, .int x] [(nx, .inr (6, [.ref fd, .ref tb, .ref pr, .ref ad, .ref rd, .ref wd, .ref h, .int (nI sk)]))] e_IA (fun (u : Unit) => [(nx, .inr (6, [.ref fd, .ref tb, .ref pr, .ref ad, .ref rd, .ref wd, .ref h, .int (nI sk)]))]) := by
  refine m_enterX (cc := cX6_orderByDivisors) (maxL := 2) (ret := (some .int)) (by decide +kernel) rfl (Nat.le_of_ble_eq_true rfl) ?_
  intro p e s m below meth c A ls C0 hnt hE hP hD hl
  obtain ⟨hx, hb, hr, hml, hts, hown, hlocks, hK, hA⟩ := id C0
  obtain ⟨hz1, hz2, ⟨hcIO, hcIA, hcIS⟩, hdcl, ⟨hs0, hs1, hs2, hs3, hs4, hs5, hs6, hs7⟩, ⟨hn1, hn2⟩, ⟨hl0, hl1, hl2, hl3, hl4⟩, hzO, htO⟩ := id hE
  generalize hQ : vx_MQ below _ _ _ s 1 6 A = Q
  have hS : va_S A s.heap s.heap [] := va_S.rf
  have hl : lv_has ls 2 [(0, .ref nx), (1, .int x)] := hl
  have hwd0 := hts (.constant RX6 58 (65535)) (by decide +kernel)
  refine lv_iload_n hx hb dX6_orderByDivisors_0 rfl (lv_at hl 1 rfl) ?_
  refine lv_ldc hx hb hown hwd0 dX6_orderByDivisors_1 ?_
  refine lv_topi (nm_r (show ((65535 : Int32)) = nI 65535 from by decide) ?_)
  subst hQ
  exact m_callSx (As := [.int x, .int (nI 65535)]) (rest := []) C0 hnt hE hl hP hD hS (c_X6_requireRange_x l hfl D cY eS eO x (nI 65535) (hn)) (va_cwS 2 hts gX6_orderByDivisors_X6_requireRange rfl rfl rfl (by decide +kernel) ⟨Nat.le_of_ble_eq_true rfl, Nat.le_of_ble_eq_true rfl⟩) dX6_orderByDivisors_3 [] rfl rfl rfl (Nat.le_of_ble_eq_true rfl) (Nat.le_of_ble_eq_true rfl) (Nat.le_of_ble_eq_true rfl) (fun _ => rfl) (fun _ => ⟨(), rfl⟩)
set_option maxHeartbeats 4000000 in
set_option maxRecDepth 100000 in
theorem c_X6_productByHalves (l : Launch) (hfl : l.stackTraces = false) (D : va_G) (cY : Nat → ClassId) (eS : Nat → Nat) (eO : Nat) (nx fd tb pr ad rd wd h sk : Nat) (x y : Nat) (hxx : x < 65536) (hyy : y < 65536) : m_Me l yX6_productByHalves wsX6_productByHalves 5 155 0 0 D cY eS eO [.ref nx, .int (nI x), .int (nI y)] [(nx, .inr (6, [.ref fd, .ref tb, .ref pr, .ref ad, .ref rd, .ref wd, .ref h, .int (nI sk)]))] (fun (res : Int32) (u : Unit) => res = nI (nm x y)) (fun (u : Unit) => [(nx, .inr (6, [.ref fd, .ref tb, .ref pr, .ref ad, .ref rd, .ref wd, .ref h, .int (nI sk)]))]) := by
  refine m_enterE (cc := cX6_productByHalves) (maxL := 3) (ret := (some .int)) (by decide +kernel) rfl (Nat.le_of_ble_eq_true rfl) ?_
  intro p e s m below meth c A ls C0 hE hP hD hl
  obtain ⟨hx, hb, hr, hml, hts, hown, hlocks, hK, hA⟩ := id C0
  obtain ⟨hz1, hz2, ⟨hcIO, hcIA, hcIS⟩, hdcl, ⟨hs0, hs1, hs2, hs3, hs4, hs5, hs6, hs7⟩, ⟨hn1, hn2⟩, ⟨hl0, hl1, hl2, hl3, hl4⟩, hzO, htO⟩ := id hE
  generalize hQ : MQ below _ _ s 0 0 A = Q
  have hS : va_S A s.heap s.heap [] := va_S.rf
  have hl : lv_has ls 3 [(0, .ref nx), (1, .int (nI x)), (2, .int (nI y))] := hl
  have hwd0 := hts (.constant RX6 58 (65535)) (by decide +kernel)
  refine lv_iload_n hx hb dX6_productByHalves_0 rfl (lv_at hl 1 rfl) ?_
  refine lv_ldc hx hb hown hwd0 dX6_productByHalves_1 ?_
  refine lv_topi (nm_r (show ((65535 : Int32)) = nI 65535 from by decide) ?_)
  refine m_callSv (As := [.int (nI x), .int (nI 65535)]) (rest := []) C0 hl hP hD hS (c_X6_requireRange l D cY x 65535 (by omega) (by decide)) (va_cwS 2 hts gX6_productByHalves_X6_requireRange rfl rfl rfl (by decide +kernel) ⟨Nat.le_of_ble_eq_true rfl, Nat.le_of_ble_eq_true rfl⟩) dX6_productByHalves_3 [] rfl rfl rfl (Nat.le_of_ble_eq_true rfl) (Nat.zero_le _) (Nat.zero_le _) (fun _ => rfl) (fun u H1 locs hw hP hD hS => ?_)
  try dsimp only at hw
  clear hw
  have hP : va_P D vwCl [(nx, .inr (6, [.ref fd, .ref tb, .ref pr, .ref ad, .ref rd, .ref wd, .ref h, .int (nI sk)]))] H1 := hP
  have hD : va_D A [(nx, .inr (6, [.ref fd, .ref tb, .ref pr, .ref ad, .ref rd, .ref wd, .ref h, .int (nI sk)]))] := hD
  refine lv_iload_n hx hb dX6_productByHalves_6 rfl (lv_at hl 2 rfl) ?_
  refine lv_ldc hx hb hown hwd0 dX6_productByHalves_7 ?_
  refine lv_topi (nm_r (show ((65535 : Int32)) = nI 65535 from by decide) ?_)
  refine m_callSv (As := [.int (nI y), .int (nI 65535)]) (rest := []) C0 hl hP hD hS (c_X6_requireRange l D cY y 65535 (by omega) (by decide)) (va_cwS 2 hts gX6_productByHalves_X6_requireRange rfl rfl rfl (by decide +kernel) ⟨Nat.le_of_ble_eq_true rfl, Nat.le_of_ble_eq_true rfl⟩) dX6_productByHalves_9 [] rfl rfl rfl (Nat.le_of_ble_eq_true rfl) (Nat.zero_le _) (Nat.zero_le _) (fun _ => rfl) (fun u H2 locs hw hP hD hS => ?_)
  try dsimp only at hw
  clear hw
  have hP : va_P D vwCl [(nx, .inr (6, [.ref fd, .ref tb, .ref pr, .ref ad, .ref rd, .ref wd, .ref h, .int (nI sk)]))] H2 := hP
  have hD : va_D A [(nx, .inr (6, [.ref fd, .ref tb, .ref pr, .ref ad, .ref rd, .ref wd, .ref h, .int (nI sk)]))] := hD
  refine lv_iload_n hx hb dX6_productByHalves_12 rfl (lv_at hl 1 rfl) ?_
  refine lv_iload_n hx hb dX6_productByHalves_13 rfl (lv_at hl 2 rfl) ?_
  refine lv_bipush (v := nI 8) hx hb dX6_productByHalves_14 (by decide) ?_
  refine m_callNi (As := [.int (nI x), .int (nI y), .int (nI 8)]) (rest := []) C0 hl hP hD hS (c_X2_tbh_8 l D cY x y (by first | assumption | omega | exact nm_lt _ _ | exact np_lt _ _ | decide) (by first | assumption | omega | exact nm_lt _ _ | exact np_lt _ _ | decide)) ⟨va_cnB 3 hts gX6_productByHalves_X2_timesByHalves_n142 rfl rfl rfl hl4 (hts (.initialized RX2) (by decide +kernel)) (by decide +kernel) ⟨Nat.le_of_ble_eq_true rfl, Nat.le_of_ble_eq_true rfl⟩, hts (.static yX2_timesByHalves) (by decide +kernel), trivial⟩ dX6_productByHalves_16 [] rfl rfl rfl (Nat.le_of_ble_eq_true rfl) (Nat.zero_le _) (Nat.zero_le _) (fun _ => rfl) (fun r4 u H3 locs hw hP hD hS => ?_)
  try dsimp only at hw
  obtain rfl := hw
  have hP : va_P D vwCl [(nx, .inr (6, [.ref fd, .ref tb, .ref pr, .ref ad, .ref rd, .ref wd, .ref h, .int (nI sk)]))] H3 := hP
  have hD : va_D A [(nx, .inr (6, [.ref fd, .ref tb, .ref pr, .ref ad, .ref rd, .ref wd, .ref h, .int (nI sk)]))] := hD
  subst hQ
  exact m_iret C0 hS dX6_productByHalves_19 (u := ()) hP (by first | trivial | rfl | omega)
set_option maxHeartbeats 4000000 in
set_option maxRecDepth 100000 in
theorem c_X6_productByHalves_x1 (l : Launch) (hfl : l.stackTraces = false) (D : va_G) (cY : Nat → ClassId) (eS : Nat → Nat) (eO : Nat) (nx fd tb pr ad rd wd h sk : Nat) (x y : Int32) (hn : ¬ (m_isN x ∧ m_isN y)) : m_Mx l yX6_productByHalves wsX6_productByHalves 7 117 D cY eS eO [.ref nx, .int x, .int y] [(nx, .inr (6, [.ref fd, .ref tb, .ref pr, .ref ad, .ref rd, .ref wd, .ref h, .int (nI sk)]))] e_IA (fun (u : Unit) => [(nx, .inr (6, [.ref fd, .ref tb, .ref pr, .ref ad, .ref rd, .ref wd, .ref h, .int (nI sk)]))]) := by
  refine m_enterX (cc := cX6_productByHalves) (maxL := 3) (ret := (some .int)) (by decide +kernel) rfl (Nat.le_of_ble_eq_true rfl) ?_
  intro p e s m below meth c A ls C0 hnt hE hP hD hl
  obtain ⟨hx, hb, hr, hml, hts, hown, hlocks, hK, hA⟩ := id C0
  obtain ⟨hz1, hz2, ⟨hcIO, hcIA, hcIS⟩, hdcl, ⟨hs0, hs1, hs2, hs3, hs4, hs5, hs6, hs7⟩, ⟨hn1, hn2⟩, ⟨hl0, hl1, hl2, hl3, hl4⟩, hzO, htO⟩ := id hE
  generalize hQ : vx_MQ below _ _ _ s 1 6 A = Q
  have hS : va_S A s.heap s.heap [] := va_S.rf
  have hl : lv_has ls 3 [(0, .ref nx), (1, .int x), (2, .int y)] := hl
  have hwd0 := hts (.constant RX6 58 (65535)) (by decide +kernel)
  rcases Decidable.em (m_isN x) with hc | hc
  · skip
    obtain ⟨k, hk, rfl⟩ := m_isN_to hc
    refine lv_iload_n hx hb dX6_productByHalves_0 rfl (lv_at hl 1 rfl) ?_
    refine lv_ldc hx hb hown hwd0 dX6_productByHalves_1 ?_
    refine lv_topi (nm_r (show ((65535 : Int32)) = nI 65535 from by decide) ?_)
    refine m_callSv (As := [.int (nI k), .int (nI 65535)]) (rest := []) C0 hl hP hD hS (c_X6_requireRange l D cY k 65535 (by omega) (by decide)) (va_cwS 2 hts gX6_productByHalves_X6_requireRange rfl rfl rfl (by decide +kernel) ⟨Nat.le_of_ble_eq_true rfl, Nat.le_of_ble_eq_true rfl⟩) dX6_productByHalves_3 [] rfl rfl rfl (Nat.le_of_ble_eq_true rfl) (Nat.zero_le _) (Nat.zero_le _) (fun _ => rfl) (fun u H1 locs hw hP hD hS => ?_)
    try dsimp only at hw
    clear hw
    have hP : va_P D vwCl [(nx, .inr (6, [.ref fd, .ref tb, .ref pr, .ref ad, .ref rd, .ref wd, .ref h, .int (nI sk)]))] H1 := hP
    have hD : va_D A [(nx, .inr (6, [.ref fd, .ref tb, .ref pr, .ref ad, .ref rd, .ref wd, .ref h, .int (nI sk)]))] := hD
    refine lv_iload_n hx hb dX6_productByHalves_6 rfl (lv_at hl 2 rfl) ?_
    refine lv_ldc hx hb hown hwd0 dX6_productByHalves_7 ?_
    refine lv_topi (nm_r (show ((65535 : Int32)) = nI 65535 from by decide) ?_)
    subst hQ
    exact m_callSx (As := [.int y, .int (nI 65535)]) (rest := []) C0 hnt hE hl hP hD hS (c_X6_requireRange_x l hfl D cY eS eO y (nI 65535) (fun q => hn ⟨hc, q⟩)) (va_cwS 2 hts gX6_productByHalves_X6_requireRange rfl rfl rfl (by decide +kernel) ⟨Nat.le_of_ble_eq_true rfl, Nat.le_of_ble_eq_true rfl⟩) dX6_productByHalves_9 [] rfl rfl rfl (Nat.le_of_ble_eq_true rfl) (Nat.le_of_ble_eq_true rfl) (Nat.le_of_ble_eq_true rfl) (fun _ => rfl) (fun _ => ⟨(), rfl⟩)
  · skip
    refine lv_iload_n hx hb dX6_productByHalves_0 rfl (lv_at hl 1 rfl) ?_
    refine lv_ldc hx hb hown hwd0 dX6_productByHalves_1 ?_
    refine lv_topi (nm_r (show ((65535 : Int32)) = nI 65535 from by decide) ?_)
    subst hQ
    exact m_callSx (As := [.int x, .int (nI 65535)]) (rest := []) C0 hnt hE hl hP hD hS (c_X6_requireRange_x l hfl D cY eS eO x (nI 65535) (hc)) (va_cwS 2 hts gX6_productByHalves_X6_requireRange rfl rfl rfl (by decide +kernel) ⟨Nat.le_of_ble_eq_true rfl, Nat.le_of_ble_eq_true rfl⟩) dX6_productByHalves_3 [] rfl rfl rfl (Nat.le_of_ble_eq_true rfl) (Nat.le_of_ble_eq_true rfl) (Nat.le_of_ble_eq_true rfl) (fun _ => rfl) (fun _ => ⟨(), rfl⟩)