set_option maxHeartbeats 4000000 in
set_option maxRecDepth 100000 in
theorem c_X0_size (l : Launch) (D : va_G) (cY : Nat → ClassId) (h kp z : Nat)  : m_Mi l yX0_size wsX0_size 0 0 D cY [.ref h] [(h, .inr (0, [.ref kp, .int (nI z)]))] (fun (res : Int32) (u : Unit) => res = nI z) (fun (u : Unit) => [(h, .inr (0, [.ref kp, .int (nI z)]))]) := by
  refine m_enterI (cc := cX0_size) (maxL := 1) (ret := (some .int)) (by decide +kernel) rfl (Nat.le_of_ble_eq_true rfl) ?_
  intro p e s m below meth c A ls C0 hP hD hl
  obtain ⟨hx, hb, hr, hml, hts, hown, hlocks, hK, hA⟩ := id C0
  generalize hQ : MQ below _ _ s 0 0 A = Q
  have hS : va_S A s.heap s.heap [] := va_S.rf
  have hl : lv_has ls 1 [(0, .ref h)] := hl
  have hw0 := hts (.fieldLink RX0 18 "NimberField$History" "size" "I") (by decide +kernel)
  have hw1 := (show ∀ w ∈ u_ws RX0 TX0 2, w ∈ wsX0_size from by decide +kernel)
  refine lv_aload_n hx hb dX0_size_0 rfl (lv_at hl 0 rfl) ?_
  refine va_get (D := D) (ci := 0) (v := .int (nI z)) (C := RX0) (T := TX0) (N := 2) hx hb hts hw1 hown hK hP 0 rfl rfl 1 (by decide) hw0 (fun _ h9 => h9) rfl dX0_size_1 ?_
  subst hQ
  exact m_iret C0 hS dX0_size_4 (u := ()) hP (by first | trivial | rfl | omega)
set_option maxHeartbeats 4000000 in
set_option maxRecDepth 100000 in
theorem c_X0_record (l : Launch) (D : va_G) (cY : Nat → ClassId) (h kp z s0 s1 s2 s3 b0 b1 b2 b3 t0 t1 t2 t3 : Nat) (g0 g1 g2 g3 : Nat → Nat) (a b cnt : Nat) (f : Nat → Nat) (hg0 : m_z 8 g0) (hg1 : m_z 8 g1) (hg2 : m_z 8 g2) (hg3 : m_z 8 g3) (hz : z ≤ 4) (hf : m_z 8 f) : m_Mv l yX0_record wsX0_record 2 43 D cY [.ref h, .ref a] [(h, .inr (0, [.ref kp, .int (nI z)])), (kp, .inl (cY 3, 4, .inr (.inr (.inr (.inr (m_k4 s0 s1 s2 s3)))))), (s0, .inr (4, [.ref b0, .int (nI t0)])), (b0, .inl (cY 0, 8, .inl (m_nf g0))), (s1, .inr (4, [.ref b1, .int (nI t1)])), (b1, .inl (cY 0, 8, .inl (m_nf g1))), (s2, .inr (4, [.ref b2, .int (nI t2)])), (b2, .inl (cY 0, 8, .inl (m_nf g2))), (s3, .inr (4, [.ref b3, .int (nI t3)])), (b3, .inl (cY 0, 8, .inl (m_nf g3))), (a, .inr (4, [.ref b, .int (nI cnt)])), (b, .inl (cY 0, 8, .inl (m_nf f)))] (fun (u : Unit) => True) (fun (u : Unit) => [(h, .inr (0, [.ref kp, .int (nI (min (z + 1) 4))])), (kp, .inl (cY 3, 4, .inr (.inr (.inr (.inr (m_k4 s0 s1 s2 s3)))))), (s0, .inr (4, [.ref b0, .int (nI cnt)])), (b0, .inl (cY 0, 8, .inl (m_nf f))), (s1, .inr (4, [.ref b1, .int (nI t0)])), (b1, .inl (cY 0, 8, .inl (m_nf g0))), (s2, .inr (4, [.ref b2, .int (nI t1)])), (b2, .inl (cY 0, 8, .inl (m_nf g1))), (s3, .inr (4, [.ref b3, .int (nI t2)])), (b3, .inl (cY 0, 8, .inl (m_nf g2))), (a, .inr (4, [.ref b, .int (nI cnt)])), (b, .inl (cY 0, 8, .inl (m_nf f)))]) := by
  refine m_enterV (cc := cX0_record) (maxL := 3) (ret := none) (by decide +kernel) rfl (Nat.le_of_ble_eq_true rfl) ?_
  intro p e s m below meth c A ls C0 hP hD hl
  obtain ⟨hx, hb, hr, hml, hts, hown, hlocks, hK, hA⟩ := id C0
  generalize hQ : MQ below _ _ s 0 0 A = Q
  have hS : va_S A s.heap s.heap [] := va_S.rf
  have hl : lv_has ls 3 [(0, .ref h), (1, .ref a)] := hl
  have hw0 := hts (.fieldLink RX0 11 "NimberField$History" "kept" "[LNimberField$State;") (by decide +kernel)
  have hw1 := (show ∀ w ∈ u_ws RX0 TX0 2, w ∈ wsX0_record from by decide +kernel)
  have hw2 := hts (.fieldLink RX0 18 "NimberField$History" "size" "I") (by decide +kernel)
  have hw3 := hts (.methodLink RX0 26 Lib.Math.min.name) (by decide +kernel)
  have hw4 := hts (.static Lib.Math.min.name) (by decide +kernel)
  have hw5 := hts (.initialized "java/lang/Math") (by decide +kernel)
  have hw6 := hts (.code Lib.Math.min.name Lib.Math.min.code 2 (some .int)) (by decide +kernel)
  refine lv_iconst (v := nI 3) hx hb dX0_record_0 (by decide) ?_
  refine lv_istore_n (lv' := [(2, .int (nI 3)), (0, .ref h), (1, .ref a)]) hx hb dX0_record_1 rfl hl (by decide) rfl (fun ls hl => ?_)
  refine lv_iload_n hx hb dX0_record_2 rfl (lv_at hl 0 rfl) ?_
  refine lv_if_le (tgt := 29) hx hb dX0_record_3 (by decide) (fun c3 => ?_) (fun c3 => ?_)
  · exact absurd c3 (by decide)
  · have c3 : ¬ (3 ≤ 0) := fun q => c3 ((nI_leI (by omega) (by omega)).mpr q)
    refine lv_aload_n hx hb dX0_record_6 rfl (lv_at hl 1 rfl) ?_
    refine va_get (D := D) (ci := 0) (v := .ref kp) (C := RX0) (T := TX0) (N := 2) hx hb hts hw1 hown hK hP 0 rfl rfl 0 (by decide) hw0 (fun _ h9 => h9) rfl dX0_record_7 ?_
    refine lv_iload_n hx hb dX0_record_10 rfl (lv_at hl 0 rfl) ?_
    refine va_aldq hx hb hK hP 1 3 rfl rfl (m_in (n := 3) (by first | assumption | omega) (by decide)) dX0_record_11 ?_
    refine m_top (show va_rf (m_k4 s0 s1 s2 s3 (nI 3).toNatClampNeg) = .ref s3 from by rw [nI_clamp (by decide)]; rfl) ?_
    refine lv_aload_n hx hb dX0_record_12 rfl (lv_at hl 1 rfl) ?_
    refine va_get (D := D) (ci := 0) (v := .ref kp) (C := RX0) (T := TX0) (N := 2) hx hb hts hw1 hown hK hP 0 rfl rfl 0 (by decide) hw0 (fun _ h9 => h9) rfl dX0_record_13 ?_
    refine lv_iload_n hx hb dX0_record_16 rfl (lv_at hl 0 rfl) ?_
    refine lv_iconst (v := nI 1) hx hb dX0_record_17 (by decide) ?_
    refine lv_isub hx hb dX0_record_18 ?_
    refine lv_topi (nm_r (show _ = nI 2 from by decide) ?_)
    refine va_aldq hx hb hK hP 1 3 rfl rfl (m_in (n := 2) (by first | assumption | omega) (by decide)) dX0_record_19 ?_
    refine m_top (show va_rf (m_k4 s0 s1 s2 s3 (nI 2).toNatClampNeg) = .ref s2 from by rw [nI_clamp (by decide)]; rfl) ?_
    refine m_callVv (As := [.ref s2]) (rest := []) C0 hl hP hD hS (c_X4_copyFrom l D cY s3 b3 t3 g3 s2 b2 t2 g2 (by first | assumption | omega | decide) (by first | assumption | omega | decide)) (cwV 1 hts gX0_record_X4_copyFrom rfl rfl rfl (by decide +kernel) ⟨Nat.le_of_ble_eq_true rfl, Nat.le_of_ble_eq_true rfl⟩) dX0_record_20 [8, 9, 6, 7] rfl rfl 8 rfl rfl rfl rfl (Nat.le_of_ble_eq_true rfl) (Nat.zero_le _) (Nat.zero_le _) (fun _ => rfl) (fun u H1 locs hw hP hD hS => ?_)
    try dsimp only at hw
    have hP : va_P D vwCl [(h, .inr (0, [.ref kp, .int (nI z)])), (kp, .inl (cY 3, 4, .inr (.inr (.inr (.inr (m_k4 s0 s1 s2 s3)))))), (s0, .inr (4, [.ref b0, .int (nI t0)])), (b0, .inl (cY 0, 8, .inl (m_nf g0))), (s1, .inr (4, [.ref b1, .int (nI t1)])), (b1, .inl (cY 0, 8, .inl (m_nf g1))), (s2, .inr (4, [.ref b2, .int (nI t2)])), (b2, .inl (cY 0, 8, .inl (m_nf g2))), (s3, .inr (4, [.ref b3, .int (nI t2)])), (b3, .inl (cY 0, 8, .inl (m_nf g2))), (a, .inr (4, [.ref b, .int (nI cnt)])), (b, .inl (cY 0, 8, .inl (m_nf f)))] H1 := hP
    have hD : va_D A [(h, .inr (0, [.ref kp, .int (nI z)])), (kp, .inl (cY 3, 4, .inr (.inr (.inr (.inr (m_k4 s0 s1 s2 s3)))))), (s0, .inr (4, [.ref b0, .int (nI t0)])), (b0, .inl (cY 0, 8, .inl (m_nf g0))), (s1, .inr (4, [.ref b1, .int (nI t1)])), (b1, .inl (cY 0, 8, .inl (m_nf g1))), (s2, .inr (4, [.ref b2, .int (nI t2)])), (b2, .inl (cY 0, 8, .inl (m_nf g2))), (s3, .inr (4, [.ref b3, .int (nI t2)])), (b3, .inl (cY 0, 8, .inl (m_nf g2))), (a, .inr (4, [.ref b, .int (nI cnt)])), (b, .inl (cY 0, 8, .inl (m_nf f)))] := hD
    refine lv_iinc (v := nI 2) (lv' := [(2, .int (nI 2)), (0, .ref h), (1, .ref a)]) hx hb dX0_record_23 hl (k := 0) rfl (by decide) (by decide) rfl (fun ls hl => ?_)
    refine lv_goto (tgt := 2) hx hb dX0_record_26 (by decide) ?_
    refine lv_iload_n hx hb dX0_record_2 rfl (lv_at hl 0 rfl) ?_
    refine lv_if_le (tgt := 29) hx hb dX0_record_3 (by decide) (fun c3 => ?_) (fun c3 => ?_)
    · exact absurd c3 (by decide)
    · have c3 : ¬ (2 ≤ 0) := fun q => c3 ((nI_leI (by omega) (by omega)).mpr q)
      refine lv_aload_n hx hb dX0_record_6 rfl (lv_at hl 1 rfl) ?_
      refine va_get (D := D) (ci := 0) (v := .ref kp) (C := RX0) (T := TX0) (N := 2) hx hb hts hw1 hown hK hP 0 rfl rfl 0 (by decide) hw0 (fun _ h9 => h9) rfl dX0_record_7 ?_
      refine lv_iload_n hx hb dX0_record_10 rfl (lv_at hl 0 rfl) ?_
      refine va_aldq hx hb hK hP 1 3 rfl rfl (m_in (n := 2) (by first | assumption | omega) (by decide)) dX0_record_11 ?_
      refine m_top (show va_rf (m_k4 s0 s1 s2 s3 (nI 2).toNatClampNeg) = .ref s2 from by rw [nI_clamp (by decide)]; rfl) ?_
      refine lv_aload_n hx hb dX0_record_12 rfl (lv_at hl 1 rfl) ?_
      refine va_get (D := D) (ci := 0) (v := .ref kp) (C := RX0) (T := TX0) (N := 2) hx hb hts hw1 hown hK hP 0 rfl rfl 0 (by decide) hw0 (fun _ h9 => h9) rfl dX0_record_13 ?_
      refine lv_iload_n hx hb dX0_record_16 rfl (lv_at hl 0 rfl) ?_
      refine lv_iconst (v := nI 1) hx hb dX0_record_17 (by decide) ?_
      refine lv_isub hx hb dX0_record_18 ?_
      refine lv_topi (nm_r (show _ = nI 1 from by decide) ?_)
      refine va_aldq hx hb hK hP 1 3 rfl rfl (m_in (n := 1) (by first | assumption | omega) (by decide)) dX0_record_19 ?_
      refine m_top (show va_rf (m_k4 s0 s1 s2 s3 (nI 1).toNatClampNeg) = .ref s1 from by rw [nI_clamp (by decide)]; rfl) ?_
      refine m_callVv (As := [.ref s1]) (rest := []) C0 hl hP hD hS (c_X4_copyFrom l D cY s2 b2 t2 g2 s1 b1 t1 g1 (by first | assumption | omega | decide) (by first | assumption | omega | decide)) (cwV 1 hts gX0_record_X4_copyFrom rfl rfl rfl (by decide +kernel) ⟨Nat.le_of_ble_eq_true rfl, Nat.le_of_ble_eq_true rfl⟩) dX0_record_20 [6, 7, 4, 5] rfl rfl 6 rfl rfl rfl rfl (Nat.le_of_ble_eq_true rfl) (Nat.zero_le _) (Nat.zero_le _) (fun _ => rfl) (fun u H2 locs hw hP hD hS => ?_)
      try dsimp only at hw
      have hP : va_P D vwCl [(h, .inr (0, [.ref kp, .int (nI z)])), (kp, .inl (cY 3, 4, .inr (.inr (.inr (.inr (m_k4 s0 s1 s2 s3)))))), (s0, .inr (4, [.ref b0, .int (nI t0)])), (b0, .inl (cY 0, 8, .inl (m_nf g0))), (s1, .inr (4, [.ref b1, .int (nI t1)])), (b1, .inl (cY 0, 8, .inl (m_nf g1))), (s2, .inr (4, [.ref b2, .int (nI t1)])), (b2, .inl (cY 0, 8, .inl (m_nf g1))), (s3, .inr (4, [.ref b3, .int (nI t2)])), (b3, .inl (cY 0, 8, .inl (m_nf g2))), (a, .inr (4, [.ref b, .int (nI cnt)])), (b, .inl (cY 0, 8, .inl (m_nf f)))] H2 := hP
      have hD : va_D A [(h, .inr (0, [.ref kp, .int (nI z)])), (kp, .inl (cY 3, 4, .inr (.inr (.inr (.inr (m_k4 s0 s1 s2 s3)))))), (s0, .inr (4, [.ref b0, .int (nI t0)])), (b0, .inl (cY 0, 8, .inl (m_nf g0))), (s1, .inr (4, [.ref b1, .int (nI t1)])), (b1, .inl (cY 0, 8, .inl (m_nf g1))), (s2, .inr (4, [.ref b2, .int (nI t1)])), (b2, .inl (cY 0, 8, .inl (m_nf g1))), (s3, .inr (4, [.ref b3, .int (nI t2)])), (b3, .inl (cY 0, 8, .inl (m_nf g2))), (a, .inr (4, [.ref b, .int (nI cnt)])), (b, .inl (cY 0, 8, .inl (m_nf f)))] := hD
      refine lv_iinc (v := nI 1) (lv' := [(2, .int (nI 1)), (0, .ref h), (1, .ref a)]) hx hb dX0_record_23 hl (k := 0) rfl (by decide) (by decide) rfl (fun ls hl => ?_)
      refine lv_goto (tgt := 2) hx hb dX0_record_26 (by decide) ?_
      refine lv_iload_n hx hb dX0_record_2 rfl (lv_at hl 0 rfl) ?_
      refine lv_if_le (tgt := 29) hx hb dX0_record_3 (by decide) (fun c3 => ?_) (fun c3 => ?_)
      · exact absurd c3 (by decide)
      · have c3 : ¬ (1 ≤ 0) := fun q => c3 ((nI_leI (by omega) (by omega)).mpr q)
        refine lv_aload_n hx hb dX0_record_6 rfl (lv_at hl 1 rfl) ?_
        refine va_get (D := D) (ci := 0) (v := .ref kp) (C := RX0) (T := TX0) (N := 2) hx hb hts hw1 hown hK hP 0 rfl rfl 0 (by decide) hw0 (fun _ h9 => h9) rfl dX0_record_7 ?_
        refine lv_iload_n hx hb dX0_record_10 rfl (lv_at hl 0 rfl) ?_
        refine va_aldq hx hb hK hP 1 3 rfl rfl (m_in (n := 1) (by first | assumption | omega) (by decide)) dX0_record_11 ?_
        refine m_top (show va_rf (m_k4 s0 s1 s2 s3 (nI 1).toNatClampNeg) = .ref s1 from by rw [nI_clamp (by decide)]; rfl) ?_
        refine lv_aload_n hx hb dX0_record_12 rfl (lv_at hl 1 rfl) ?_
        refine va_get (D := D) (ci := 0) (v := .ref kp) (C := RX0) (T := TX0) (N := 2) hx hb hts hw1 hown hK hP 0 rfl rfl 0 (by decide) hw0 (fun _ h9 => h9) rfl dX0_record_13 ?_
        refine lv_iload_n hx hb dX0_record_16 rfl (lv_at hl 0 rfl) ?_
        refine lv_iconst (v := nI 1) hx hb dX0_record_17 (by decide) ?_
        refine lv_isub hx hb dX0_record_18 ?_
        refine lv_topi (nm_r (show _ = nI 0 from by decide) ?_)
        refine va_aldq hx hb hK hP 1 3 rfl rfl (m_in (n := 0) (by first | assumption | omega) (by decide)) dX0_record_19 ?_
        refine m_top (show va_rf (m_k4 s0 s1 s2 s3 (nI 0).toNatClampNeg) = .ref s0 from by rw [nI_clamp (by decide)]; rfl) ?_
        refine m_callVv (As := [.ref s0]) (rest := []) C0 hl hP hD hS (c_X4_copyFrom l D cY s1 b1 t1 g1 s0 b0 t0 g0 (by first | assumption | omega | decide) (by first | assumption | omega | decide)) (cwV 1 hts gX0_record_X4_copyFrom rfl rfl rfl (by decide +kernel) ⟨Nat.le_of_ble_eq_true rfl, Nat.le_of_ble_eq_true rfl⟩) dX0_record_20 [4, 5, 2, 3] rfl rfl 4 rfl rfl rfl rfl (Nat.le_of_ble_eq_true rfl) (Nat.zero_le _) (Nat.zero_le _) (fun _ => rfl) (fun u H3 locs hw hP hD hS => ?_)
        try dsimp only at hw
        have hP : va_P D vwCl [(h, .inr (0, [.ref kp, .int (nI z)])), (kp, .inl (cY 3, 4, .inr (.inr (.inr (.inr (m_k4 s0 s1 s2 s3)))))), (s0, .inr (4, [.ref b0, .int (nI t0)])), (b0, .inl (cY 0, 8, .inl (m_nf g0))), (s1, .inr (4, [.ref b1, .int (nI t0)])), (b1, .inl (cY 0, 8, .inl (m_nf g0))), (s2, .inr (4, [.ref b2, .int (nI t1)])), (b2, .inl (cY 0, 8, .inl (m_nf g1))), (s3, .inr (4, [.ref b3, .int (nI t2)])), (b3, .inl (cY 0, 8, .inl (m_nf g2))), (a, .inr (4, [.ref b, .int (nI cnt)])), (b, .inl (cY 0, 8, .inl (m_nf f)))] H3 := hP
        have hD : va_D A [(h, .inr (0, [.ref kp, .int (nI z)])), (kp, .inl (cY 3, 4, .inr (.inr (.inr (.inr (m_k4 s0 s1 s2 s3)))))), (s0, .inr (4, [.ref b0, .int (nI t0)])), (b0, .inl (cY 0, 8, .inl (m_nf g0))), (s1, .inr (4, [.ref b1, .int (nI t0)])), (b1, .inl (cY 0, 8, .inl (m_nf g0))), (s2, .inr (4, [.ref b2, .int (nI t1)])), (b2, .inl (cY 0, 8, .inl (m_nf g1))), (s3, .inr (4, [.ref b3, .int (nI t2)])), (b3, .inl (cY 0, 8, .inl (m_nf g2))), (a, .inr (4, [.ref b, .int (nI cnt)])), (b, .inl (cY 0, 8, .inl (m_nf f)))] := hD
        refine lv_iinc (v := nI 0) (lv' := [(2, .int (nI 0)), (0, .ref h), (1, .ref a)]) hx hb dX0_record_23 hl (k := 0) rfl (by decide) (by decide) rfl (fun ls hl => ?_)
        refine lv_goto (tgt := 2) hx hb dX0_record_26 (by decide) ?_
        refine lv_iload_n hx hb dX0_record_2 rfl (lv_at hl 0 rfl) ?_
        refine lv_if_le (tgt := 29) hx hb dX0_record_3 (by decide) (fun c3 => ?_) (fun c3 => ?_)
        · have c3 : 0 ≤ 0 := (nI_leI (by omega) (by omega)).mp c3
          refine lv_aload_n hx hb dX0_record_29 rfl (lv_at hl 1 rfl) ?_
          refine va_get (D := D) (ci := 0) (v := .ref kp) (C := RX0) (T := TX0) (N := 2) hx hb hts hw1 hown hK hP 0 rfl rfl 0 (by decide) hw0 (fun _ h9 => h9) rfl dX0_record_30 ?_
          refine lv_iconst (v := nI 0) hx hb dX0_record_33 (by decide) ?_
          refine va_aldq hx hb hK hP 1 3 rfl rfl (m_in (n := 0) (by first | assumption | omega) (by decide)) dX0_record_34 ?_
          refine m_top (show va_rf (m_k4 s0 s1 s2 s3 (nI 0).toNatClampNeg) = .ref s0 from by rw [nI_clamp (by decide)]; rfl) ?_
          refine lv_aload_n hx hb dX0_record_35 rfl (lv_at hl 2 rfl) ?_
          refine m_callVv (As := [.ref a]) (rest := []) C0 hl hP hD hS (c_X4_copyFrom l D cY s0 b0 t0 g0 a b cnt f (by first | assumption | omega | decide) (by first | assumption | omega | decide)) (cwV 1 hts gX0_record_X4_copyFrom rfl rfl rfl (by decide +kernel) ⟨Nat.le_of_ble_eq_true rfl, Nat.le_of_ble_eq_true rfl⟩) dX0_record_36 [2, 3, 10, 11] rfl rfl 2 rfl rfl rfl rfl (Nat.le_of_ble_eq_true rfl) (Nat.zero_le _) (Nat.zero_le _) (fun _ => rfl) (fun u H4 locs hw hP hD hS => ?_)
          try dsimp only at hw
          have hP : va_P D vwCl [(h, .inr (0, [.ref kp, .int (nI z)])), (kp, .inl (cY 3, 4, .inr (.inr (.inr (.inr (m_k4 s0 s1 s2 s3)))))), (s0, .inr (4, [.ref b0, .int (nI cnt)])), (b0, .inl (cY 0, 8, .inl (m_nf f))), (s1, .inr (4, [.ref b1, .int (nI t0)])), (b1, .inl (cY 0, 8, .inl (m_nf g0))), (s2, .inr (4, [.ref b2, .int (nI t1)])), (b2, .inl (cY 0, 8, .inl (m_nf g1))), (s3, .inr (4, [.ref b3, .int (nI t2)])), (b3, .inl (cY 0, 8, .inl (m_nf g2))), (a, .inr (4, [.ref b, .int (nI cnt)])), (b, .inl (cY 0, 8, .inl (m_nf f)))] H4 := hP
          have hD : va_D A [(h, .inr (0, [.ref kp, .int (nI z)])), (kp, .inl (cY 3, 4, .inr (.inr (.inr (.inr (m_k4 s0 s1 s2 s3)))))), (s0, .inr (4, [.ref b0, .int (nI cnt)])), (b0, .inl (cY 0, 8, .inl (m_nf f))), (s1, .inr (4, [.ref b1, .int (nI t0)])), (b1, .inl (cY 0, 8, .inl (m_nf g0))), (s2, .inr (4, [.ref b2, .int (nI t1)])), (b2, .inl (cY 0, 8, .inl (m_nf g1))), (s3, .inr (4, [.ref b3, .int (nI t2)])), (b3, .inl (cY 0, 8, .inl (m_nf g2))), (a, .inr (4, [.ref b, .int (nI cnt)])), (b, .inl (cY 0, 8, .inl (m_nf f)))] := hD
          refine lv_aload_n hx hb dX0_record_39 rfl (lv_at hl 1 rfl) ?_
          refine lv_aload_n hx hb dX0_record_40 rfl (lv_at hl 1 rfl) ?_
          refine va_get (D := D) (ci := 0) (v := .int (nI z)) (C := RX0) (T := TX0) (N := 2) hx hb hts hw1 hown hK hP 0 rfl rfl 1 (by decide) hw2 (fun _ h9 => h9) rfl dX0_record_41 ?_
          refine lv_iconst (v := nI 1) hx hb dX0_record_44 (by decide) ?_
          refine lv_iadd hx hb dX0_record_45 ?_
          refine lv_topi (nm_r (nI_add _ _) ?_)
          refine lv_iconst (v := nI 4) hx hb dX0_record_46 (by decide) ?_
          refine va_mmin hx hb (by rw [hml]; exact hl.1.symm) hown hw3 hw4 hw5 hw6 (Nat.le_of_ble_eq_true rfl) (Nat.le_of_ble_eq_true rfl) (Nat.zero_le _) (Nat.zero_le _) dX0_record_47 ?_
          refine lv_topi (nm_r (m_min _ _ (by omega) (by omega)) ?_)
          refine va_put (D := D) (ci := 0) (v := .int (nI (min (z + 1) 4))) (ty := .int) (C := RX0) (T := TX0) (N := 2) hx hb hts hw1 tyX0 tyX0_ok nmX0 hown hK hP hD hS 0 rfl rfl 1 (by decide) hw2 (fun _ h9 => h9) rfl (by decide +kernel) rfl rfl (Nat.le_of_ble_eq_true rfl) dX0_record_50 (fun H5 locs hP hD hS => ?_)
          have hP : va_P D vwCl [(h, .inr (0, [.ref kp, .int (nI (min (z + 1) 4))])), (kp, .inl (cY 3, 4, .inr (.inr (.inr (.inr (m_k4 s0 s1 s2 s3)))))), (s0, .inr (4, [.ref b0, .int (nI cnt)])), (b0, .inl (cY 0, 8, .inl (m_nf f))), (s1, .inr (4, [.ref b1, .int (nI t0)])), (b1, .inl (cY 0, 8, .inl (m_nf g0))), (s2, .inr (4, [.ref b2, .int (nI t1)])), (b2, .inl (cY 0, 8, .inl (m_nf g1))), (s3, .inr (4, [.ref b3, .int (nI t2)])), (b3, .inl (cY 0, 8, .inl (m_nf g2))), (a, .inr (4, [.ref b, .int (nI cnt)])), (b, .inl (cY 0, 8, .inl (m_nf f)))] H5 := hP
          have hD : va_D A [(h, .inr (0, [.ref kp, .int (nI (min (z + 1) 4))])), (kp, .inl (cY 3, 4, .inr (.inr (.inr (.inr (m_k4 s0 s1 s2 s3)))))), (s0, .inr (4, [.ref b0, .int (nI cnt)])), (b0, .inl (cY 0, 8, .inl (m_nf f))), (s1, .inr (4, [.ref b1, .int (nI t0)])), (b1, .inl (cY 0, 8, .inl (m_nf g0))), (s2, .inr (4, [.ref b2, .int (nI t1)])), (b2, .inl (cY 0, 8, .inl (m_nf g1))), (s3, .inr (4, [.ref b3, .int (nI t2)])), (b3, .inl (cY 0, 8, .inl (m_nf g2))), (a, .inr (4, [.ref b, .int (nI cnt)])), (b, .inl (cY 0, 8, .inl (m_nf f)))] := hD
          subst hQ
          exact m_vret C0 hS dX0_record_53 (u := ()) hP (by first | trivial | rfl | omega)
        · exact absurd c3 (by decide)
set_option maxHeartbeats 4000000 in
set_option maxRecDepth 100000 in
theorem c_X0_returnTo (l : Launch) (D : va_G) (cY : Nat → ClassId) (h kp z s0 s1 s2 s3 b0 b1 b2 b3 t0 t1 t2 t3 : Nat) (g0 g1 g2 g3 : Nat → Nat) (a b cnt : Nat) (f : Nat → Nat) (hg0 : m_z 8 g0) (hg1 : m_z 8 g1) (hg2 : m_z 8 g2) (hg3 : m_z 8 g3) (hz : 0 < z) (hz4 : z ≤ 4) (hf : m_z 8 f) : m_Mi l yX0_returnTo wsX0_returnTo 2 43 D cY [.ref h, .ref a] [(h, .inr (0, [.ref kp, .int (nI z)])), (kp, .inl (cY 3, 4, .inr (.inr (.inr (.inr (m_k4 s0 s1 s2 s3)))))), (s0, .inr (4, [.ref b0, .int (nI t0)])), (b0, .inl (cY 0, 8, .inl (m_nf g0))), (s1, .inr (4, [.ref b1, .int (nI t1)])), (b1, .inl (cY 0, 8, .inl (m_nf g1))), (s2, .inr (4, [.ref b2, .int (nI t2)])), (b2, .inl (cY 0, 8, .inl (m_nf g2))), (s3, .inr (4, [.ref b3, .int (nI t3)])), (b3, .inl (cY 0, 8, .inl (m_nf g3))), (a, .inr (4, [.ref b, .int (nI cnt)])), (b, .inl (cY 0, 8, .inl (m_nf f)))] (fun (res : Int32) (u : Unit) => res = nI (z - 1)) (fun (u : Unit) => [(h, .inr (0, [.ref kp, .int (nI (z - 1))])), (kp, .inl (cY 3, 4, .inr (.inr (.inr (.inr (m_k4 s0 s1 s2 s3)))))), (s0, .inr (4, [.ref b0, .int (nI t1)])), (b0, .inl (cY 0, 8, .inl (m_nf g1))), (s1, .inr (4, [.ref b1, .int (nI t2)])), (b1, .inl (cY 0, 8, .inl (m_nf g2))), (s2, .inr (4, [.ref b2, .int (nI t3)])), (b2, .inl (cY 0, 8, .inl (m_nf g3))), (s3, .inr (4, [.ref b3, .int (nI t3)])), (b3, .inl (cY 0, 8, .inl (m_nf g3))), (a, .inr (4, [.ref b, .int (nI t0)])), (b, .inl (cY 0, 8, .inl (m_nf g0)))]) := by
  refine m_enterI (cc := cX0_returnTo) (maxL := 3) (ret := (some .int)) (by decide +kernel) rfl (Nat.le_of_ble_eq_true rfl) ?_
  intro p e s m below meth c A ls C0 hP hD hl
  obtain ⟨hx, hb, hr, hml, hts, hown, hlocks, hK, hA⟩ := id C0
  generalize hQ : MQ below _ _ s 0 0 A = Q
  have hS : va_S A s.heap s.heap [] := va_S.rf
  have hl : lv_has ls 3 [(0, .ref h), (1, .ref a)] := hl
  have hw0 := hts (.fieldLink RX0 18 "NimberField$History" "size" "I") (by decide +kernel)
  have hw1 := (show ∀ w ∈ u_ws RX0 TX0 2, w ∈ wsX0_returnTo from by decide +kernel)
  have hw2 := hts (.fieldLink RX0 11 "NimberField$History" "kept" "[LNimberField$State;") (by decide +kernel)
  refine lv_aload_n hx hb dX0_returnTo_0 rfl (lv_at hl 0 rfl) ?_
  refine va_get (D := D) (ci := 0) (v := .int (nI z)) (C := RX0) (T := TX0) (N := 2) hx hb hts hw1 hown hK hP 0 rfl rfl 1 (by decide) hw0 (fun _ h9 => h9) rfl dX0_returnTo_1 ?_
  refine lv_if_le (tgt := 57) hx hb dX0_returnTo_4 (by decide) (fun c4 => ?_) (fun c4 => ?_)
  · have c4 : z ≤ 0 := (nI_leI (by omega) (by omega)).mp c4
    exfalso; omega
  · have c4 : ¬ (z ≤ 0) := fun q => c4 ((nI_leI (by omega) (by omega)).mpr q)
    refine lv_aload_n hx hb dX0_returnTo_7 rfl (lv_at hl 1 rfl) ?_
    refine lv_aload_n hx hb dX0_returnTo_8 rfl (lv_at hl 0 rfl) ?_
    refine va_get (D := D) (ci := 0) (v := .ref kp) (C := RX0) (T := TX0) (N := 2) hx hb hts hw1 hown hK hP 0 rfl rfl 0 (by decide) hw2 (fun _ h9 => h9) rfl dX0_returnTo_9 ?_
    refine lv_iconst (v := nI 0) hx hb dX0_returnTo_12 (by decide) ?_
    refine va_aldq hx hb hK hP 1 3 rfl rfl (m_in (n := 0) (by first | assumption | omega) (by decide)) dX0_returnTo_13 ?_
    refine m_top (show va_rf (m_k4 s0 s1 s2 s3 (nI 0).toNatClampNeg) = .ref s0 from by rw [nI_clamp (by decide)]; rfl) ?_
    refine m_callVv (As := [.ref s0]) (rest := []) C0 hl hP hD hS (c_X4_copyFrom l D cY a b cnt f s0 b0 t0 g0 (by first | assumption | omega | decide) (by first | assumption | omega | decide)) (cwV 1 hts gX0_returnTo_X4_copyFrom rfl rfl rfl (by decide +kernel) ⟨Nat.le_of_ble_eq_true rfl, Nat.le_of_ble_eq_true rfl⟩) dX0_returnTo_14 [10, 11, 2, 3] rfl rfl 10 rfl rfl rfl rfl (Nat.le_of_ble_eq_true rfl) (Nat.zero_le _) (Nat.zero_le _) (fun _ => rfl) (fun u H1 locs hw hP hD hS => ?_)
    try dsimp only at hw
    have hP : va_P D vwCl [(h, .inr (0, [.ref kp, .int (nI z)])), (kp, .inl (cY 3, 4, .inr (.inr (.inr (.inr (m_k4 s0 s1 s2 s3)))))), (s0, .inr (4, [.ref b0, .int (nI t0)])), (b0, .inl (cY 0, 8, .inl (m_nf g0))), (s1, .inr (4, [.ref b1, .int (nI t1)])), (b1, .inl (cY 0, 8, .inl (m_nf g1))), (s2, .inr (4, [.ref b2, .int (nI t2)])), (b2, .inl (cY 0, 8, .inl (m_nf g2))), (s3, .inr (4, [.ref b3, .int (nI t3)])), (b3, .inl (cY 0, 8, .inl (m_nf g3))), (a, .inr (4, [.ref b, .int (nI t0)])), (b, .inl (cY 0, 8, .inl (m_nf g0)))] H1 := hP
    have hD : va_D A [(h, .inr (0, [.ref kp, .int (nI z)])), (kp, .inl (cY 3, 4, .inr (.inr (.inr (.inr (m_k4 s0 s1 s2 s3)))))), (s0, .inr (4, [.ref b0, .int (nI t0)])), (b0, .inl (cY 0, 8, .inl (m_nf g0))), (s1, .inr (4, [.ref b1, .int (nI t1)])), (b1, .inl (cY 0, 8, .inl (m_nf g1))), (s2, .inr (4, [.ref b2, .int (nI t2)])), (b2, .inl (cY 0, 8, .inl (m_nf g2))), (s3, .inr (4, [.ref b3, .int (nI t3)])), (b3, .inl (cY 0, 8, .inl (m_nf g3))), (a, .inr (4, [.ref b, .int (nI t0)])), (b, .inl (cY 0, 8, .inl (m_nf g0)))] := hD
    refine lv_iconst (v := nI 1) hx hb dX0_returnTo_17 (by decide) ?_
    refine lv_istore_n (lv' := [(2, .int (nI 1)), (0, .ref h), (1, .ref a)]) hx hb dX0_returnTo_18 rfl hl (by decide) rfl (fun ls hl => ?_)
    refine lv_iload_n hx hb dX0_returnTo_19 rfl (lv_at hl 0 rfl) ?_
    refine lv_iconst (v := nI 4) hx hb dX0_returnTo_20 (by decide) ?_
    refine lv_icmp_ge (tgt := 47) hx hb dX0_returnTo_21 (by decide) (fun c21 => ?_) (fun c21 => ?_)
    · exact absurd c21 (by decide)
    · have c21 : ¬ (4 ≤ 1) := fun q => c21 ((nI_leI (by omega) (by omega)).mpr q)
      refine lv_aload_n hx hb dX0_returnTo_24 rfl (lv_at hl 1 rfl) ?_
      refine va_get (D := D) (ci := 0) (v := .ref kp) (C := RX0) (T := TX0) (N := 2) hx hb hts hw1 hown hK hP 0 rfl rfl 0 (by decide) hw2 (fun _ h9 => h9) rfl dX0_returnTo_25 ?_
      refine lv_iload_n hx hb dX0_returnTo_28 rfl (lv_at hl 0 rfl) ?_
      refine lv_iconst (v := nI 1) hx hb dX0_returnTo_29 (by decide) ?_
      refine lv_isub hx hb dX0_returnTo_30 ?_
      refine lv_topi (nm_r (show _ = nI 0 from by decide) ?_)
      refine va_aldq hx hb hK hP 1 3 rfl rfl (m_in (n := 0) (by first | assumption | omega) (by decide)) dX0_returnTo_31 ?_
      refine m_top (show va_rf (m_k4 s0 s1 s2 s3 (nI 0).toNatClampNeg) = .ref s0 from by rw [nI_clamp (by decide)]; rfl) ?_
      refine lv_aload_n hx hb dX0_returnTo_32 rfl (lv_at hl 1 rfl) ?_
      refine va_get (D := D) (ci := 0) (v := .ref kp) (C := RX0) (T := TX0) (N := 2) hx hb hts hw1 hown hK hP 0 rfl rfl 0 (by decide) hw2 (fun _ h9 => h9) rfl dX0_returnTo_33 ?_
      refine lv_iload_n hx hb dX0_returnTo_36 rfl (lv_at hl 0 rfl) ?_
      refine va_aldq hx hb hK hP 1 3 rfl rfl (m_in (n := 1) (by first | assumption | omega) (by decide)) dX0_returnTo_37 ?_
      refine m_top (show va_rf (m_k4 s0 s1 s2 s3 (nI 1).toNatClampNeg) = .ref s1 from by rw [nI_clamp (by decide)]; rfl) ?_
      refine m_callVv (As := [.ref s1]) (rest := []) C0 hl hP hD hS (c_X4_copyFrom l D cY s0 b0 t0 g0 s1 b1 t1 g1 (by first | assumption | omega | decide) (by first | assumption | omega | decide)) (cwV 1 hts gX0_returnTo_X4_copyFrom rfl rfl rfl (by decide +kernel) ⟨Nat.le_of_ble_eq_true rfl, Nat.le_of_ble_eq_true rfl⟩) dX0_returnTo_38 [2, 3, 4, 5] rfl rfl 2 rfl rfl rfl rfl (Nat.le_of_ble_eq_true rfl) (Nat.zero_le _) (Nat.zero_le _) (fun _ => rfl) (fun u H2 locs hw hP hD hS => ?_)
      try dsimp only at hw
      have hP : va_P D vwCl [(h, .inr (0, [.ref kp, .int (nI z)])), (kp, .inl (cY 3, 4, .inr (.inr (.inr (.inr (m_k4 s0 s1 s2 s3)))))), (s0, .inr (4, [.ref b0, .int (nI t1)])), (b0, .inl (cY 0, 8, .inl (m_nf g1))), (s1, .inr (4, [.ref b1, .int (nI t1)])), (b1, .inl (cY 0, 8, .inl (m_nf g1))), (s2, .inr (4, [.ref b2, .int (nI t2)])), (b2, .inl (cY 0, 8, .inl (m_nf g2))), (s3, .inr (4, [.ref b3, .int (nI t3)])), (b3, .inl (cY 0, 8, .inl (m_nf g3))), (a, .inr (4, [.ref b, .int (nI t0)])), (b, .inl (cY 0, 8, .inl (m_nf g0)))] H2 := hP
      have hD : va_D A [(h, .inr (0, [.ref kp, .int (nI z)])), (kp, .inl (cY 3, 4, .inr (.inr (.inr (.inr (m_k4 s0 s1 s2 s3)))))), (s0, .inr (4, [.ref b0, .int (nI t1)])), (b0, .inl (cY 0, 8, .inl (m_nf g1))), (s1, .inr (4, [.ref b1, .int (nI t1)])), (b1, .inl (cY 0, 8, .inl (m_nf g1))), (s2, .inr (4, [.ref b2, .int (nI t2)])), (b2, .inl (cY 0, 8, .inl (m_nf g2))), (s3, .inr (4, [.ref b3, .int (nI t3)])), (b3, .inl (cY 0, 8, .inl (m_nf g3))), (a, .inr (4, [.ref b, .int (nI t0)])), (b, .inl (cY 0, 8, .inl (m_nf g0)))] := hD
      refine lv_iinc (v := nI 2) (lv' := [(2, .int (nI 2)), (0, .ref h), (1, .ref a)]) hx hb dX0_returnTo_41 hl (k := 0) rfl (by decide) (by decide) rfl (fun ls hl => ?_)
      refine lv_goto (tgt := 19) hx hb dX0_returnTo_44 (by decide) ?_
      refine lv_iload_n hx hb dX0_returnTo_19 rfl (lv_at hl 0 rfl) ?_
      refine lv_iconst (v := nI 4) hx hb dX0_returnTo_20 (by decide) ?_
      refine lv_icmp_ge (tgt := 47) hx hb dX0_returnTo_21 (by decide) (fun c21 => ?_) (fun c21 => ?_)
      · exact absurd c21 (by decide)
      · have c21 : ¬ (4 ≤ 2) := fun q => c21 ((nI_leI (by omega) (by omega)).mpr q)
        refine lv_aload_n hx hb dX0_returnTo_24 rfl (lv_at hl 1 rfl) ?_
        refine va_get (D := D) (ci := 0) (v := .ref kp) (C := RX0) (T := TX0) (N := 2) hx hb hts hw1 hown hK hP 0 rfl rfl 0 (by decide) hw2 (fun _ h9 => h9) rfl dX0_returnTo_25 ?_
        refine lv_iload_n hx hb dX0_returnTo_28 rfl (lv_at hl 0 rfl) ?_
        refine lv_iconst (v := nI 1) hx hb dX0_returnTo_29 (by decide) ?_
        refine lv_isub hx hb dX0_returnTo_30 ?_
        refine lv_topi (nm_r (show _ = nI 1 from by decide) ?_)
        refine va_aldq hx hb hK hP 1 3 rfl rfl (m_in (n := 1) (by first | assumption | omega) (by decide)) dX0_returnTo_31 ?_
        refine m_top (show va_rf (m_k4 s0 s1 s2 s3 (nI 1).toNatClampNeg) = .ref s1 from by rw [nI_clamp (by decide)]; rfl) ?_
        refine lv_aload_n hx hb dX0_returnTo_32 rfl (lv_at hl 1 rfl) ?_
        refine va_get (D := D) (ci := 0) (v := .ref kp) (C := RX0) (T := TX0) (N := 2) hx hb hts hw1 hown hK hP 0 rfl rfl 0 (by decide) hw2 (fun _ h9 => h9) rfl dX0_returnTo_33 ?_
        refine lv_iload_n hx hb dX0_returnTo_36 rfl (lv_at hl 0 rfl) ?_
        refine va_aldq hx hb hK hP 1 3 rfl rfl (m_in (n := 2) (by first | assumption | omega) (by decide)) dX0_returnTo_37 ?_
        refine m_top (show va_rf (m_k4 s0 s1 s2 s3 (nI 2).toNatClampNeg) = .ref s2 from by rw [nI_clamp (by decide)]; rfl) ?_
        refine m_callVv (As := [.ref s2]) (rest := []) C0 hl hP hD hS (c_X4_copyFrom l D cY s1 b1 t1 g1 s2 b2 t2 g2 (by first | assumption | omega | decide) (by first | assumption | omega | decide)) (cwV 1 hts gX0_returnTo_X4_copyFrom rfl rfl rfl (by decide +kernel) ⟨Nat.le_of_ble_eq_true rfl, Nat.le_of_ble_eq_true rfl⟩) dX0_returnTo_38 [4, 5, 6, 7] rfl rfl 4 rfl rfl rfl rfl (Nat.le_of_ble_eq_true rfl) (Nat.zero_le _) (Nat.zero_le _) (fun _ => rfl) (fun u H3 locs hw hP hD hS => ?_)
        try dsimp only at hw
        have hP : va_P D vwCl [(h, .inr (0, [.ref kp, .int (nI z)])), (kp, .inl (cY 3, 4, .inr (.inr (.inr (.inr (m_k4 s0 s1 s2 s3)))))), (s0, .inr (4, [.ref b0, .int (nI t1)])), (b0, .inl (cY 0, 8, .inl (m_nf g1))), (s1, .inr (4, [.ref b1, .int (nI t2)])), (b1, .inl (cY 0, 8, .inl (m_nf g2))), (s2, .inr (4, [.ref b2, .int (nI t2)])), (b2, .inl (cY 0, 8, .inl (m_nf g2))), (s3, .inr (4, [.ref b3, .int (nI t3)])), (b3, .inl (cY 0, 8, .inl (m_nf g3))), (a, .inr (4, [.ref b, .int (nI t0)])), (b, .inl (cY 0, 8, .inl (m_nf g0)))] H3 := hP
        have hD : va_D A [(h, .inr (0, [.ref kp, .int (nI z)])), (kp, .inl (cY 3, 4, .inr (.inr (.inr (.inr (m_k4 s0 s1 s2 s3)))))), (s0, .inr (4, [.ref b0, .int (nI t1)])), (b0, .inl (cY 0, 8, .inl (m_nf g1))), (s1, .inr (4, [.ref b1, .int (nI t2)])), (b1, .inl (cY 0, 8, .inl (m_nf g2))), (s2, .inr (4, [.ref b2, .int (nI t2)])), (b2, .inl (cY 0, 8, .inl (m_nf g2))), (s3, .inr (4, [.ref b3, .int (nI t3)])), (b3, .inl (cY 0, 8, .inl (m_nf g3))), (a, .inr (4, [.ref b, .int (nI t0)])), (b, .inl (cY 0, 8, .inl (m_nf g0)))] := hD
        refine lv_iinc (v := nI 3) (lv' := [(2, .int (nI 3)), (0, .ref h), (1, .ref a)]) hx hb dX0_returnTo_41 hl (k := 0) rfl (by decide) (by decide) rfl (fun ls hl => ?_)
        refine lv_goto (tgt := 19) hx hb dX0_returnTo_44 (by decide) ?_
        refine lv_iload_n hx hb dX0_returnTo_19 rfl (lv_at hl 0 rfl) ?_
        refine lv_iconst (v := nI 4) hx hb dX0_returnTo_20 (by decide) ?_
        refine lv_icmp_ge (tgt := 47) hx hb dX0_returnTo_21 (by decide) (fun c21 => ?_) (fun c21 => ?_)
        · exact absurd c21 (by decide)
        · have c21 : ¬ (4 ≤ 3) := fun q => c21 ((nI_leI (by omega) (by omega)).mpr q)
          refine lv_aload_n hx hb dX0_returnTo_24 rfl (lv_at hl 1 rfl) ?_
          refine va_get (D := D) (ci := 0) (v := .ref kp) (C := RX0) (T := TX0) (N := 2) hx hb hts hw1 hown hK hP 0 rfl rfl 0 (by decide) hw2 (fun _ h9 => h9) rfl dX0_returnTo_25 ?_
          refine lv_iload_n hx hb dX0_returnTo_28 rfl (lv_at hl 0 rfl) ?_
          refine lv_iconst (v := nI 1) hx hb dX0_returnTo_29 (by decide) ?_
          refine lv_isub hx hb dX0_returnTo_30 ?_
          refine lv_topi (nm_r (show _ = nI 2 from by decide) ?_)
          refine va_aldq hx hb hK hP 1 3 rfl rfl (m_in (n := 2) (by first | assumption | omega) (by decide)) dX0_returnTo_31 ?_
          refine m_top (show va_rf (m_k4 s0 s1 s2 s3 (nI 2).toNatClampNeg) = .ref s2 from by rw [nI_clamp (by decide)]; rfl) ?_
          refine lv_aload_n hx hb dX0_returnTo_32 rfl (lv_at hl 1 rfl) ?_
          refine va_get (D := D) (ci := 0) (v := .ref kp) (C := RX0) (T := TX0) (N := 2) hx hb hts hw1 hown hK hP 0 rfl rfl 0 (by decide) hw2 (fun _ h9 => h9) rfl dX0_returnTo_33 ?_
          refine lv_iload_n hx hb dX0_returnTo_36 rfl (lv_at hl 0 rfl) ?_
          refine va_aldq hx hb hK hP 1 3 rfl rfl (m_in (n := 3) (by first | assumption | omega) (by decide)) dX0_returnTo_37 ?_
          refine m_top (show va_rf (m_k4 s0 s1 s2 s3 (nI 3).toNatClampNeg) = .ref s3 from by rw [nI_clamp (by decide)]; rfl) ?_
          refine m_callVv (As := [.ref s3]) (rest := []) C0 hl hP hD hS (c_X4_copyFrom l D cY s2 b2 t2 g2 s3 b3 t3 g3 (by first | assumption | omega | decide) (by first | assumption | omega | decide)) (cwV 1 hts gX0_returnTo_X4_copyFrom rfl rfl rfl (by decide +kernel) ⟨Nat.le_of_ble_eq_true rfl, Nat.le_of_ble_eq_true rfl⟩) dX0_returnTo_38 [6, 7, 8, 9] rfl rfl 6 rfl rfl rfl rfl (Nat.le_of_ble_eq_true rfl) (Nat.zero_le _) (Nat.zero_le _) (fun _ => rfl) (fun u H4 locs hw hP hD hS => ?_)
          try dsimp only at hw
          have hP : va_P D vwCl [(h, .inr (0, [.ref kp, .int (nI z)])), (kp, .inl (cY 3, 4, .inr (.inr (.inr (.inr (m_k4 s0 s1 s2 s3)))))), (s0, .inr (4, [.ref b0, .int (nI t1)])), (b0, .inl (cY 0, 8, .inl (m_nf g1))), (s1, .inr (4, [.ref b1, .int (nI t2)])), (b1, .inl (cY 0, 8, .inl (m_nf g2))), (s2, .inr (4, [.ref b2, .int (nI t3)])), (b2, .inl (cY 0, 8, .inl (m_nf g3))), (s3, .inr (4, [.ref b3, .int (nI t3)])), (b3, .inl (cY 0, 8, .inl (m_nf g3))), (a, .inr (4, [.ref b, .int (nI t0)])), (b, .inl (cY 0, 8, .inl (m_nf g0)))] H4 := hP
          have hD : va_D A [(h, .inr (0, [.ref kp, .int (nI z)])), (kp, .inl (cY 3, 4, .inr (.inr (.inr (.inr (m_k4 s0 s1 s2 s3)))))), (s0, .inr (4, [.ref b0, .int (nI t1)])), (b0, .inl (cY 0, 8, .inl (m_nf g1))), (s1, .inr (4, [.ref b1, .int (nI t2)])), (b1, .inl (cY 0, 8, .inl (m_nf g2))), (s2, .inr (4, [.ref b2, .int (nI t3)])), (b2, .inl (cY 0, 8, .inl (m_nf g3))), (s3, .inr (4, [.ref b3, .int (nI t3)])), (b3, .inl (cY 0, 8, .inl (m_nf g3))), (a, .inr (4, [.ref b, .int (nI t0)])), (b, .inl (cY 0, 8, .inl (m_nf g0)))] := hD
          refine lv_iinc (v := nI 4) (lv' := [(2, .int (nI 4)), (0, .ref h), (1, .ref a)]) hx hb dX0_returnTo_41 hl (k := 0) rfl (by decide) (by decide) rfl (fun ls hl => ?_)
          refine lv_goto (tgt := 19) hx hb dX0_returnTo_44 (by decide) ?_
          refine lv_iload_n hx hb dX0_returnTo_19 rfl (lv_at hl 0 rfl) ?_
          refine lv_iconst (v := nI 4) hx hb dX0_returnTo_20 (by decide) ?_
          refine lv_icmp_ge (tgt := 47) hx hb dX0_returnTo_21 (by decide) (fun c21 => ?_) (fun c21 => ?_)
          · have c21 : 4 ≤ 4 := (nI_leI (by omega) (by omega)).mp c21
            refine lv_aload_n hx hb dX0_returnTo_47 rfl (lv_at hl 1 rfl) ?_
            refine lv_dup hx hb dX0_returnTo_48 rfl ?_
            refine va_get (D := D) (ci := 0) (v := .int (nI z)) (C := RX0) (T := TX0) (N := 2) hx hb hts hw1 hown hK hP 0 rfl rfl 1 (by decide) hw0 (fun _ h9 => h9) rfl dX0_returnTo_49 ?_
            refine lv_iconst (v := nI 1) hx hb dX0_returnTo_52 (by decide) ?_
            refine lv_isub hx hb dX0_returnTo_53 ?_
            refine lv_topi (nm_r (pk_sub (by omega)) ?_)
            refine va_put (D := D) (ci := 0) (v := .int (nI (z - 1))) (ty := .int) (C := RX0) (T := TX0) (N := 2) hx hb hts hw1 tyX0 tyX0_ok nmX0 hown hK hP hD hS 0 rfl rfl 1 (by decide) hw0 (fun _ h9 => h9) rfl (by decide +kernel) rfl rfl (Nat.le_of_ble_eq_true rfl) dX0_returnTo_54 (fun H5 locs hP hD hS => ?_)
            have hP : va_P D vwCl [(h, .inr (0, [.ref kp, .int (nI (z - 1))])), (kp, .inl (cY 3, 4, .inr (.inr (.inr (.inr (m_k4 s0 s1 s2 s3)))))), (s0, .inr (4, [.ref b0, .int (nI t1)])), (b0, .inl (cY 0, 8, .inl (m_nf g1))), (s1, .inr (4, [.ref b1, .int (nI t2)])), (b1, .inl (cY 0, 8, .inl (m_nf g2))), (s2, .inr (4, [.ref b2, .int (nI t3)])), (b2, .inl (cY 0, 8, .inl (m_nf g3))), (s3, .inr (4, [.ref b3, .int (nI t3)])), (b3, .inl (cY 0, 8, .inl (m_nf g3))), (a, .inr (4, [.ref b, .int (nI t0)])), (b, .inl (cY 0, 8, .inl (m_nf g0)))] H5 := hP
            have hD : va_D A [(h, .inr (0, [.ref kp, .int (nI (z - 1))])), (kp, .inl (cY 3, 4, .inr (.inr (.inr (.inr (m_k4 s0 s1 s2 s3)))))), (s0, .inr (4, [.ref b0, .int (nI t1)])), (b0, .inl (cY 0, 8, .inl (m_nf g1))), (s1, .inr (4, [.ref b1, .int (nI t2)])), (b1, .inl (cY 0, 8, .inl (m_nf g2))), (s2, .inr (4, [.ref b2, .int (nI t3)])), (b2, .inl (cY 0, 8, .inl (m_nf g3))), (s3, .inr (4, [.ref b3, .int (nI t3)])), (b3, .inl (cY 0, 8, .inl (m_nf g3))), (a, .inr (4, [.ref b, .int (nI t0)])), (b, .inl (cY 0, 8, .inl (m_nf g0)))] := hD
            refine lv_aload_n hx hb dX0_returnTo_57 rfl (lv_at hl 1 rfl) ?_
            refine va_get (D := D) (ci := 0) (v := .int (nI (z - 1))) (C := RX0) (T := TX0) (N := 2) hx hb hts hw1 hown hK hP 0 rfl rfl 1 (by decide) hw0 (fun _ h9 => h9) rfl dX0_returnTo_58 ?_
            subst hQ
            exact m_iret C0 hS dX0_returnTo_61 (u := ()) hP (by first | trivial | rfl | omega)
          · exact absurd c21 (by decide)
