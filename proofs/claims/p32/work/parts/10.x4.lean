set_option maxHeartbeats 4000000 in
set_option maxRecDepth 100000 in
theorem c_X4_nimberIn (l : Launch) (D : va_G) (cY : Nat → ClassId) (a b cnt : Nat) (f : Nat → Nat) (k : Nat) (hk : k < 8) : m_Mi l yX4_nimberIn wsX4_nimberIn 0 0 D cY [.ref a, .int (nI k)] [(a, .inr (4, [.ref b, .int (nI cnt)])), (b, .inl (cY 0, 8, .inl (m_nf f)))] (fun (res : Int32) (u : Unit) => res = nI (f k)) (fun (u : Unit) => [(a, .inr (4, [.ref b, .int (nI cnt)])), (b, .inl (cY 0, 8, .inl (m_nf f)))]) := by
  refine m_enterI (cc := cX4_nimberIn) (maxL := 2) (ret := (some .int)) (by decide +kernel) rfl (Nat.le_of_ble_eq_true rfl) ?_
  intro p e s m below meth c A ls C0 hP hD hl
  obtain ⟨hx, hb, hr, hml, hts, hown, hlocks, hK, hA⟩ := id C0
  generalize hQ : MQ below _ _ s 0 0 A = Q
  have hS : va_S A s.heap s.heap [] := va_S.rf
  have hl : lv_has ls 2 [(0, .ref a), (1, .int (nI k))] := hl
  have hw0 := hts (.fieldLink RX4 9 "NimberField$State" "nimbers" "[I") (by decide +kernel)
  have hw1 := (show ∀ w ∈ u_ws RX4 TX4 2, w ∈ wsX4_nimberIn from by decide +kernel)
  refine lv_iload_n hx hb dX4_nimberIn_0 rfl (lv_at hl 1 rfl) ?_
  refine lv_if_lt (tgt := 10) hx hb dX4_nimberIn_1 (by decide) (fun c1 => ?_) (fun c1 => ?_)
  · have c1 : k < 0 := (nI_ltI (by omega) (by omega)).mp c1
    exfalso; omega
  · have c1 : ¬ (k < 0) := fun q => c1 ((nI_ltI (by omega) (by omega)).mpr q)
    refine lv_iload_n hx hb dX4_nimberIn_4 rfl (lv_at hl 1 rfl) ?_
    refine lv_bipush (v := nI 8) hx hb dX4_nimberIn_5 (by decide) ?_
    refine lv_icmp_lt (tgt := 14) hx hb dX4_nimberIn_7 (by decide) (fun c7 => ?_) (fun c7 => ?_)
    · have c7 : k < 8 := (nI_ltI (by omega) (by omega)).mp c7
      refine lv_aload_n hx hb dX4_nimberIn_14 rfl (lv_at hl 0 rfl) ?_
      refine va_get (D := D) (ci := 4) (v := .ref b) (C := RX4) (T := TX4) (N := 2) hx hb hts hw1 hown hK hP 0 rfl rfl 0 (by decide) hw0 (fun _ h9 => h9) rfl dX4_nimberIn_15 ?_
      refine lv_iload_n hx hb dX4_nimberIn_18 rfl (lv_at hl 1 rfl) ?_
      refine va_iald hx hb hK hP 1 0 rfl rfl (m_in (n := k) (by first | assumption | omega) (by decide)) dX4_nimberIn_19 ?_
      refine lv_topi (nm_r (m_ldn (g := f) (n := k) (by omega)) ?_)
      subst hQ
      exact m_iret C0 hS dX4_nimberIn_20 (u := ()) hP (by first | trivial | rfl | omega)
    · have c7 : ¬ (k < 8) := fun q => c7 ((nI_ltI (by omega) (by omega)).mpr q)
      exfalso; omega
set_option maxHeartbeats 4000000 in
set_option maxRecDepth 100000 in
theorem c_X4_put (l : Launch) (D : va_G) (cY : Nat → ClassId) (a b cnt : Nat) (f : Nat → Nat) (k v : Nat) (hk : k < 8) : m_Mv l yX4_put wsX4_put 0 0 D cY [.ref a, .int (nI k), .int (nI v)] [(a, .inr (4, [.ref b, .int (nI cnt)])), (b, .inl (cY 0, 8, .inl (m_nf f)))] (fun (u : Unit) => True) (fun (u : Unit) => [(a, .inr (4, [.ref b, .int (nI cnt)])), (b, .inl (cY 0, 8, .inl (m_nf (m_up f k v))))]) := by
  refine m_enterV (cc := cX4_put) (maxL := 3) (ret := none) (by decide +kernel) rfl (Nat.le_of_ble_eq_true rfl) ?_
  intro p e s m below meth c A ls C0 hP hD hl
  obtain ⟨hx, hb, hr, hml, hts, hown, hlocks, hK, hA⟩ := id C0
  generalize hQ : MQ below _ _ s 0 0 A = Q
  have hS : va_S A s.heap s.heap [] := va_S.rf
  have hl : lv_has ls 3 [(0, .ref a), (1, .int (nI k)), (2, .int (nI v))] := hl
  have hw0 := hts (.fieldLink RX4 9 "NimberField$State" "nimbers" "[I") (by decide +kernel)
  have hw1 := (show ∀ w ∈ u_ws RX4 TX4 2, w ∈ wsX4_put from by decide +kernel)
  refine lv_iload_n hx hb dX4_put_0 rfl (lv_at hl 1 rfl) ?_
  refine lv_if_lt (tgt := 17) hx hb dX4_put_1 (by decide) (fun c1 => ?_) (fun c1 => ?_)
  · have c1 : k < 0 := (nI_ltI (by omega) (by omega)).mp c1
    exfalso; omega
  · have c1 : ¬ (k < 0) := fun q => c1 ((nI_ltI (by omega) (by omega)).mpr q)
    refine lv_iload_n hx hb dX4_put_4 rfl (lv_at hl 1 rfl) ?_
    refine lv_bipush (v := nI 8) hx hb dX4_put_5 (by decide) ?_
    refine lv_icmp_ge (tgt := 17) hx hb dX4_put_7 (by decide) (fun c7 => ?_) (fun c7 => ?_)
    · have c7 : 8 ≤ k := (nI_leI (by omega) (by omega)).mp c7
      exfalso; omega
    · have c7 : ¬ (8 ≤ k) := fun q => c7 ((nI_leI (by omega) (by omega)).mpr q)
      refine lv_aload_n hx hb dX4_put_10 rfl (lv_at hl 0 rfl) ?_
      refine va_get (D := D) (ci := 4) (v := .ref b) (C := RX4) (T := TX4) (N := 2) hx hb hts hw1 hown hK hP 0 rfl rfl 0 (by decide) hw0 (fun _ h9 => h9) rfl dX4_put_11 ?_
      refine lv_iload_n hx hb dX4_put_14 rfl (lv_at hl 1 rfl) ?_
      refine lv_iload_n hx hb dX4_put_15 rfl (lv_at hl 2 rfl) ?_
      refine va_iast hx hb hK hP hD hS 1 0 rfl rfl (m_in (n := k) (by first | assumption | omega) (by decide)) dX4_put_16 (fun H1 locs hP hD hS => ?_)
      have hP : va_P D vwCl [(a, .inr (4, [.ref b, .int (nI cnt)])), (b, .inl (cY 0, 8, .inl (upd (m_nf f) (nI k).toNatClampNeg (nI v))))] H1 := hP
      have hD : va_D A [(a, .inr (4, [.ref b, .int (nI cnt)])), (b, .inl (cY 0, 8, .inl (upd (m_nf f) (nI k).toNatClampNeg (nI v))))] := hD
      rw [m_upd (g := f) (n := k) (v := v) (by omega)] at hP hD
      have hP : va_P D vwCl [(a, .inr (4, [.ref b, .int (nI cnt)])), (b, .inl (cY 0, 8, .inl (m_nf (m_up f k v))))] H1 := hP
      have hD : va_D A [(a, .inr (4, [.ref b, .int (nI cnt)])), (b, .inl (cY 0, 8, .inl (m_nf (m_up f k v))))] := hD
      subst hQ
      exact m_vret C0 hS dX4_put_17 (u := ()) hP (by first | trivial | rfl | omega)
set_option maxHeartbeats 4000000 in
set_option maxRecDepth 100000 in
theorem c_X4_productCount (l : Launch) (D : va_G) (cY : Nat → ClassId) (a b cnt : Nat) (f : Nat → Nat)  : m_Mi l yX4_productCount wsX4_productCount 0 0 D cY [.ref a] [(a, .inr (4, [.ref b, .int (nI cnt)])), (b, .inl (cY 0, 8, .inl (m_nf f)))] (fun (res : Int32) (u : Unit) => res = nI cnt) (fun (u : Unit) => [(a, .inr (4, [.ref b, .int (nI cnt)])), (b, .inl (cY 0, 8, .inl (m_nf f)))]) := by
  refine m_enterI (cc := cX4_productCount) (maxL := 1) (ret := (some .int)) (by decide +kernel) rfl (Nat.le_of_ble_eq_true rfl) ?_
  intro p e s m below meth c A ls C0 hP hD hl
  obtain ⟨hx, hb, hr, hml, hts, hown, hlocks, hK, hA⟩ := id C0
  generalize hQ : MQ below _ _ s 0 0 A = Q
  have hS : va_S A s.heap s.heap [] := va_S.rf
  have hl : lv_has ls 1 [(0, .ref a)] := hl
  have hw0 := hts (.fieldLink RX4 15 "NimberField$State" "productCount" "I") (by decide +kernel)
  have hw1 := (show ∀ w ∈ u_ws RX4 TX4 2, w ∈ wsX4_productCount from by decide +kernel)
  refine lv_aload_n hx hb dX4_productCount_0 rfl (lv_at hl 0 rfl) ?_
  refine va_get (D := D) (ci := 4) (v := .int (nI cnt)) (C := RX4) (T := TX4) (N := 2) hx hb hts hw1 hown hK hP 0 rfl rfl 1 (by decide) hw0 (fun _ h9 => h9) rfl dX4_productCount_1 ?_
  subst hQ
  exact m_iret C0 hS dX4_productCount_4 (u := ()) hP (by first | trivial | rfl | omega)
set_option maxHeartbeats 4000000 in
set_option maxRecDepth 100000 in
theorem c_X4_countProduct (l : Launch) (D : va_G) (cY : Nat → ClassId) (a b cnt : Nat) (f : Nat → Nat)  : m_Mv l yX4_countProduct wsX4_countProduct 0 0 D cY [.ref a] [(a, .inr (4, [.ref b, .int (nI cnt)])), (b, .inl (cY 0, 8, .inl (m_nf f)))] (fun (u : Unit) => True) (fun (u : Unit) => [(a, .inr (4, [.ref b, .int (nI (cnt + 1))])), (b, .inl (cY 0, 8, .inl (m_nf f)))]) := by
  refine m_enterV (cc := cX4_countProduct) (maxL := 1) (ret := none) (by decide +kernel) rfl (Nat.le_of_ble_eq_true rfl) ?_
  intro p e s m below meth c A ls C0 hP hD hl
  obtain ⟨hx, hb, hr, hml, hts, hown, hlocks, hK, hA⟩ := id C0
  generalize hQ : MQ below _ _ s 0 0 A = Q
  have hS : va_S A s.heap s.heap [] := va_S.rf
  have hl : lv_has ls 1 [(0, .ref a)] := hl
  have hw0 := hts (.fieldLink RX4 15 "NimberField$State" "productCount" "I") (by decide +kernel)
  have hw1 := (show ∀ w ∈ u_ws RX4 TX4 2, w ∈ wsX4_countProduct from by decide +kernel)
  refine lv_aload_n hx hb dX4_countProduct_0 rfl (lv_at hl 0 rfl) ?_
  refine lv_dup hx hb dX4_countProduct_1 rfl ?_
  refine va_get (D := D) (ci := 4) (v := .int (nI cnt)) (C := RX4) (T := TX4) (N := 2) hx hb hts hw1 hown hK hP 0 rfl rfl 1 (by decide) hw0 (fun _ h9 => h9) rfl dX4_countProduct_2 ?_
  refine lv_iconst (v := nI 1) hx hb dX4_countProduct_5 (by decide) ?_
  refine lv_iadd hx hb dX4_countProduct_6 ?_
  refine lv_topi (nm_r (nI_add _ _) ?_)
  refine va_put (D := D) (ci := 4) (v := .int (nI (cnt + 1))) (ty := .int) (C := RX4) (T := TX4) (N := 2) hx hb hts hw1 tyX4 tyX4_ok nmX4 hown hK hP hD hS 0 rfl rfl 1 (by decide) hw0 (fun _ h9 => h9) rfl (by decide +kernel) rfl rfl (Nat.le_of_ble_eq_true rfl) dX4_countProduct_7 (fun H1 locs hP hD hS => ?_)
  have hP : va_P D vwCl [(a, .inr (4, [.ref b, .int (nI (cnt + 1))])), (b, .inl (cY 0, 8, .inl (m_nf f)))] H1 := hP
  have hD : va_D A [(a, .inr (4, [.ref b, .int (nI (cnt + 1))])), (b, .inl (cY 0, 8, .inl (m_nf f)))] := hD
  subst hQ
  exact m_vret C0 hS dX4_countProduct_10 (u := ()) hP (by first | trivial | rfl | omega)
set_option maxHeartbeats 4000000 in
set_option maxRecDepth 100000 in
theorem c_X4_copyFrom (l : Launch) (D : va_G) (cY : Nat → ClassId) (a b cnt : Nat) (f : Nat → Nat) (a2 b2 cnt2 : Nat) (f2 : Nat → Nat) (h1 : m_z 8 f) (h2 : m_z 8 f2) : m_Mv l yX4_copyFrom wsX4_copyFrom 1 21 D cY [.ref a, .ref a2] [(a, .inr (4, [.ref b, .int (nI cnt)])), (b, .inl (cY 0, 8, .inl (m_nf f))), (a2, .inr (4, [.ref b2, .int (nI cnt2)])), (b2, .inl (cY 0, 8, .inl (m_nf f2)))] (fun (u : Unit) => True) (fun (u : Unit) => [(a, .inr (4, [.ref b, .int (nI cnt2)])), (b, .inl (cY 0, 8, .inl (m_nf f2))), (a2, .inr (4, [.ref b2, .int (nI cnt2)])), (b2, .inl (cY 0, 8, .inl (m_nf f2)))]) := by
  refine m_enterV (cc := cX4_copyFrom) (maxL := 3) (ret := none) (by decide +kernel) rfl (Nat.le_of_ble_eq_true rfl) ?_
  intro p e s m below meth c A ls C0 hP hD hl
  obtain ⟨hx, hb, hr, hml, hts, hown, hlocks, hK, hA⟩ := id C0
  generalize hQ : MQ below _ _ s 0 0 A = Q
  have hS : va_S A s.heap s.heap [] := va_S.rf
  have hl : lv_has ls 3 [(0, .ref a), (1, .ref a2)] := hl
  have hw0 := hts (.fieldLink RX4 15 "NimberField$State" "productCount" "I") (by decide +kernel)
  have hw1 := (show ∀ w ∈ u_ws RX4 TX4 2, w ∈ wsX4_copyFrom from by decide +kernel)
  have hw2 := hts (.fieldLink RX4 9 "NimberField$State" "nimbers" "[I") (by decide +kernel)
  refine lv_iconst (v := nI 0) hx hb dX4_copyFrom_0 (by decide) ?_
  refine lv_istore_n (lv' := [(2, .int (nI 0)), (0, .ref a), (1, .ref a2)]) hx hb dX4_copyFrom_1 rfl hl (by decide) rfl (fun ls hl => ?_)
  rw [show m_nf (f) = m_nf (m_mix f f2 0) from congrArg m_nf (m_mix0 f f2)] at hP hD
  have hP : va_P D vwCl [(a, .inr (4, [.ref b, .int (nI cnt)])), (b, .inl (cY 0, 8, .inl (m_nf (m_mix f f2 0)))), (a2, .inr (4, [.ref b2, .int (nI cnt2)])), (b2, .inl (cY 0, 8, .inl (m_nf f2)))] s.heap := hP
  have hD : va_D A [(a, .inr (4, [.ref b, .int (nI cnt)])), (b, .inl (cY 0, 8, .inl (m_nf (m_mix f f2 0)))), (a2, .inr (4, [.ref b2, .int (nI cnt2)])), (b2, .inl (cY 0, 8, .inl (m_nf f2)))] := hD
  have lp2_1 : ∀ (nn : Nat) (i : Nat) (H : Heap) (locs : List Loc) (ls : Array Slot), (i ≤ 8) → 8 - i < nn → va_P D vwCl [(a, .inr (4, [.ref b, .int (nI cnt)])), (b, .inl (cY 0, 8, .inl (m_nf (m_mix f f2 i)))), (a2, .inr (4, [.ref b2, .int (nI cnt2)])), (b2, .inl (cY 0, 8, .inl (m_nf f2)))] H → va_D A [(a, .inr (4, [.ref b, .int (nI cnt)])), (b, .inl (cY 0, 8, .inl (m_nf (m_mix f f2 i)))), (a2, .inr (4, [.ref b2, .int (nI cnt2)])), (b2, .inl (cY 0, 8, .inl (m_nf f2)))] → va_S A s.heap H locs → lv_has ls 3 [(0, .ref a), (1, .ref a2), (2, .int (nI i))] → W p l e { frames := 1, cells := 0, slots := 0, locals := 21 } s m ([.ref a, .ref a2] : List Value).toArray below meth c H locs 0 0 Q (F0 m 2 ls []) := by
    intro nn
    induction nn with
    | zero => intros; omega
    | succ nn ih2 =>
      intro i H locs ls hi hmz hP hD hS hl
      refine lv_iload_n hx hb dX4_copyFrom_2 rfl (lv_at hl 2 rfl) ?_
      refine lv_bipush (v := nI 8) hx hb dX4_copyFrom_3 (by decide) ?_
      refine lv_icmp_ge (tgt := 25) hx hb dX4_copyFrom_5 (by decide) (fun c5 => ?_) (fun c5 => ?_)
      · have c5 : 8 ≤ i := (nI_leI (by omega) (by omega)).mp c5
        have hi8 : i = 8 := by omega
        subst hi8
        rw [show m_nf (m_mix f f2 8) = m_nf (f2) from congrArg m_nf (m_mixE h1 h2)] at hP hD
        have hP : va_P D vwCl [(a, .inr (4, [.ref b, .int (nI cnt)])), (b, .inl (cY 0, 8, .inl (m_nf f2))), (a2, .inr (4, [.ref b2, .int (nI cnt2)])), (b2, .inl (cY 0, 8, .inl (m_nf f2)))] H := hP
        have hD : va_D A [(a, .inr (4, [.ref b, .int (nI cnt)])), (b, .inl (cY 0, 8, .inl (m_nf f2))), (a2, .inr (4, [.ref b2, .int (nI cnt2)])), (b2, .inl (cY 0, 8, .inl (m_nf f2)))] := hD
        refine lv_aload_n hx hb dX4_copyFrom_25 rfl (lv_at hl 0 rfl) ?_
        refine lv_aload_n hx hb dX4_copyFrom_26 rfl (lv_at hl 1 rfl) ?_
        refine m_callVi (As := []) (rest := [.ref a]) C0 hl hP hD hS (c_X4_productCount l D cY a2 b2 cnt2 f2 ) (cwV 0 hts gX4_copyFrom_X4_productCount rfl rfl rfl (by decide +kernel) ⟨Nat.le_of_ble_eq_true rfl, Nat.le_of_ble_eq_true rfl⟩) dX4_copyFrom_27 [2, 3] rfl rfl 2 rfl rfl rfl rfl (Nat.le_of_ble_eq_true rfl) (Nat.zero_le _) (Nat.zero_le _) (fun _ => rfl) (fun r3 u H2 locs hw hP hD hS => ?_)
        try dsimp only at hw
        obtain rfl := hw
        have hP : va_P D vwCl [(a, .inr (4, [.ref b, .int (nI cnt)])), (b, .inl (cY 0, 8, .inl (m_nf f2))), (a2, .inr (4, [.ref b2, .int (nI cnt2)])), (b2, .inl (cY 0, 8, .inl (m_nf f2)))] H2 := hP
        have hD : va_D A [(a, .inr (4, [.ref b, .int (nI cnt)])), (b, .inl (cY 0, 8, .inl (m_nf f2))), (a2, .inr (4, [.ref b2, .int (nI cnt2)])), (b2, .inl (cY 0, 8, .inl (m_nf f2)))] := hD
        refine va_put (D := D) (ci := 4) (v := .int (nI cnt2)) (ty := .int) (C := RX4) (T := TX4) (N := 2) hx hb hts hw1 tyX4 tyX4_ok nmX4 hown hK hP hD hS 0 rfl rfl 1 (by decide) hw0 (fun _ h9 => h9) rfl (by decide +kernel) rfl rfl (Nat.le_of_ble_eq_true rfl) dX4_copyFrom_30 (fun H4 locs hP hD hS => ?_)
        have hP : va_P D vwCl [(a, .inr (4, [.ref b, .int (nI cnt2)])), (b, .inl (cY 0, 8, .inl (m_nf f2))), (a2, .inr (4, [.ref b2, .int (nI cnt2)])), (b2, .inl (cY 0, 8, .inl (m_nf f2)))] H4 := hP
        have hD : va_D A [(a, .inr (4, [.ref b, .int (nI cnt2)])), (b, .inl (cY 0, 8, .inl (m_nf f2))), (a2, .inr (4, [.ref b2, .int (nI cnt2)])), (b2, .inl (cY 0, 8, .inl (m_nf f2)))] := hD
        subst hQ
        exact m_vret C0 hS dX4_copyFrom_33 (u := ()) hP (by first | trivial | rfl | omega)
      · have c5 : ¬ (8 ≤ i) := fun q => c5 ((nI_leI (by omega) (by omega)).mpr q)
        refine lv_aload_n hx hb dX4_copyFrom_8 rfl (lv_at hl 0 rfl) ?_
        refine va_get (D := D) (ci := 4) (v := .ref b) (C := RX4) (T := TX4) (N := 2) hx hb hts hw1 hown hK hP 0 rfl rfl 0 (by decide) hw2 (fun _ h9 => h9) rfl dX4_copyFrom_9 ?_
        refine lv_iload_n hx hb dX4_copyFrom_12 rfl (lv_at hl 2 rfl) ?_
        refine lv_aload_n hx hb dX4_copyFrom_13 rfl (lv_at hl 1 rfl) ?_
        refine lv_iload_n hx hb dX4_copyFrom_14 rfl (lv_at hl 2 rfl) ?_
        refine m_callVi (As := [.int (nI i)]) (rest := [.int (nI i), .ref b]) C0 hl hP hD hS (c_X4_nimberIn l D cY a2 b2 cnt2 f2 i (by first | assumption | omega | decide)) (cwV 1 hts gX4_copyFrom_X4_nimberIn rfl rfl rfl (by decide +kernel) ⟨Nat.le_of_ble_eq_true rfl, Nat.le_of_ble_eq_true rfl⟩) dX4_copyFrom_15 [2, 3] rfl rfl 2 rfl rfl rfl rfl (Nat.le_of_ble_eq_true rfl) (Nat.zero_le _) (Nat.zero_le _) (fun _ => rfl) (fun r6 u H5 locs hw hP hD hS => ?_)
        try dsimp only at hw
        obtain rfl := hw
        have hP : va_P D vwCl [(a, .inr (4, [.ref b, .int (nI cnt)])), (b, .inl (cY 0, 8, .inl (m_nf (m_mix f f2 i)))), (a2, .inr (4, [.ref b2, .int (nI cnt2)])), (b2, .inl (cY 0, 8, .inl (m_nf f2)))] H5 := hP
        have hD : va_D A [(a, .inr (4, [.ref b, .int (nI cnt)])), (b, .inl (cY 0, 8, .inl (m_nf (m_mix f f2 i)))), (a2, .inr (4, [.ref b2, .int (nI cnt2)])), (b2, .inl (cY 0, 8, .inl (m_nf f2)))] := hD
        refine va_iast hx hb hK hP hD hS 1 0 rfl rfl (m_in (n := i) (by first | assumption | omega) (by decide)) dX4_copyFrom_18 (fun H7 locs hP hD hS => ?_)
        have hP : va_P D vwCl [(a, .inr (4, [.ref b, .int (nI cnt)])), (b, .inl (cY 0, 8, .inl (upd (m_nf (m_mix f f2 i)) (nI i).toNatClampNeg (nI (f2 i))))), (a2, .inr (4, [.ref b2, .int (nI cnt2)])), (b2, .inl (cY 0, 8, .inl (m_nf f2)))] H7 := hP
        have hD : va_D A [(a, .inr (4, [.ref b, .int (nI cnt)])), (b, .inl (cY 0, 8, .inl (upd (m_nf (m_mix f f2 i)) (nI i).toNatClampNeg (nI (f2 i))))), (a2, .inr (4, [.ref b2, .int (nI cnt2)])), (b2, .inl (cY 0, 8, .inl (m_nf f2)))] := hD
        rw [m_upd (g := m_mix f f2 i) (n := i) (v := f2 i) (by omega)] at hP hD
        have hP : va_P D vwCl [(a, .inr (4, [.ref b, .int (nI cnt)])), (b, .inl (cY 0, 8, .inl (m_nf (m_up (m_mix f f2 i) i (f2 i))))), (a2, .inr (4, [.ref b2, .int (nI cnt2)])), (b2, .inl (cY 0, 8, .inl (m_nf f2)))] H7 := hP
        have hD : va_D A [(a, .inr (4, [.ref b, .int (nI cnt)])), (b, .inl (cY 0, 8, .inl (m_nf (m_up (m_mix f f2 i) i (f2 i))))), (a2, .inr (4, [.ref b2, .int (nI cnt2)])), (b2, .inl (cY 0, 8, .inl (m_nf f2)))] := hD
        rw [show m_nf (m_up (m_mix f f2 i) i (f2 i)) = m_nf (m_mix f f2 (i + 1)) from congrArg m_nf (m_mixS f f2 i)] at hP hD
        have hP : va_P D vwCl [(a, .inr (4, [.ref b, .int (nI cnt)])), (b, .inl (cY 0, 8, .inl (m_nf (m_mix f f2 (i + 1))))), (a2, .inr (4, [.ref b2, .int (nI cnt2)])), (b2, .inl (cY 0, 8, .inl (m_nf f2)))] H7 := hP
        have hD : va_D A [(a, .inr (4, [.ref b, .int (nI cnt)])), (b, .inl (cY 0, 8, .inl (m_nf (m_mix f f2 (i + 1))))), (a2, .inr (4, [.ref b2, .int (nI cnt2)])), (b2, .inl (cY 0, 8, .inl (m_nf f2)))] := hD
        refine lv_iinc (v := nI (i + 1)) (lv' := [(2, .int (nI (i + 1))), (0, .ref a), (1, .ref a2)]) hx hb dX4_copyFrom_19 hl (k := 2) rfl (nI_add _ 1) (by decide) rfl (fun ls hl => ?_)
        refine lv_goto (tgt := 2) hx hb dX4_copyFrom_22 (by decide) ?_
        exact ih2 (i + 1) _ _ ls (by first | assumption | omega) (by omega) hP hD hS (lv_sub hl [1, 2, 0] rfl)
  exact lp2_1 _ 0 _ _ ls (by first | assumption | omega) (Nat.lt_succ_self _) hP hD hS (lv_sub hl [1, 2, 0] rfl)
set_option maxHeartbeats 4000000 in
set_option maxRecDepth 100000 in
theorem c_X4_sum (l : Launch) (D : va_G) (cY : Nat → ClassId) (a b cnt : Nat) (f : Nat → Nat)  : m_Mi l yX4_sum wsX4_sum 0 0 D cY [.ref a] [(a, .inr (4, [.ref b, .int (nI cnt)])), (b, .inl (cY 0, 8, .inl (m_nf f)))] (fun (res : Int32) (u : Unit) => res = nI (m_xr f 8)) (fun (u : Unit) => [(a, .inr (4, [.ref b, .int (nI cnt)])), (b, .inl (cY 0, 8, .inl (m_nf f)))]) := by
  refine m_enterI (cc := cX4_sum) (maxL := 3) (ret := (some .int)) (by decide +kernel) rfl (Nat.le_of_ble_eq_true rfl) ?_
  intro p e s m below meth c A ls C0 hP hD hl
  obtain ⟨hx, hb, hr, hml, hts, hown, hlocks, hK, hA⟩ := id C0
  generalize hQ : MQ below _ _ s 0 0 A = Q
  have hS : va_S A s.heap s.heap [] := va_S.rf
  have hl : lv_has ls 3 [(0, .ref a)] := hl
  have hw0 := hts (.fieldLink RX4 9 "NimberField$State" "nimbers" "[I") (by decide +kernel)
  have hw1 := (show ∀ w ∈ u_ws RX4 TX4 2, w ∈ wsX4_sum from by decide +kernel)
  refine lv_iconst (v := nI 0) hx hb dX4_sum_0 (by decide) ?_
  refine lv_istore_n (lv' := [(1, .int (nI 0)), (0, .ref a)]) hx hb dX4_sum_1 rfl hl (by decide) rfl (fun ls hl => ?_)
  refine lv_iconst (v := nI 0) hx hb dX4_sum_2 (by decide) ?_
  refine lv_istore_n (lv' := [(2, .int (nI 0)), (1, .int (nI 0)), (0, .ref a)]) hx hb dX4_sum_3 rfl hl (by decide) rfl (fun ls hl => ?_)
  have lp4_1 : ∀ (nn : Nat) (i : Nat) (x : Nat) (H : Heap) (locs : List Loc) (ls : Array Slot), (i ≤ 8) → (x = m_xr f i) → 8 - i < nn → va_P D vwCl [(a, .inr (4, [.ref b, .int (nI cnt)])), (b, .inl (cY 0, 8, .inl (m_nf f)))] H → va_D A [(a, .inr (4, [.ref b, .int (nI cnt)])), (b, .inl (cY 0, 8, .inl (m_nf f)))] → va_S A s.heap H locs → lv_has ls 3 [(0, .ref a), (1, .int (nI x)), (2, .int (nI i))] → W p l e { frames := 0, cells := 0, slots := 0, locals := 0 } s m ([.ref a] : List Value).toArray below meth c H locs 0 0 Q (F0 m 4 ls []) := by
    intro nn
    induction nn with
    | zero => intros; omega
    | succ nn ih4 =>
      intro i x H locs ls hi hxr hmz hP hD hS hl
      refine lv_iload_n hx hb dX4_sum_4 rfl (lv_at hl 2 rfl) ?_
      refine lv_bipush (v := nI 8) hx hb dX4_sum_5 (by decide) ?_
      refine lv_icmp_ge (tgt := 25) hx hb dX4_sum_7 (by decide) (fun c7 => ?_) (fun c7 => ?_)
      · have c7 : 8 ≤ i := (nI_leI (by omega) (by omega)).mp c7
        have hi8 : i = 8 := by omega
        subst hi8
        refine lv_iload_n hx hb dX4_sum_25 rfl (lv_at hl 1 rfl) ?_
        subst hQ
        exact m_iret C0 hS dX4_sum_26 (u := ()) hP (congrArg nI hxr)
      · have c7 : ¬ (8 ≤ i) := fun q => c7 ((nI_leI (by omega) (by omega)).mpr q)
        refine lv_iload_n hx hb dX4_sum_10 rfl (lv_at hl 1 rfl) ?_
        refine lv_aload_n hx hb dX4_sum_11 rfl (lv_at hl 0 rfl) ?_
        refine va_get (D := D) (ci := 4) (v := .ref b) (C := RX4) (T := TX4) (N := 2) hx hb hts hw1 hown hK hP 0 rfl rfl 0 (by decide) hw0 (fun _ h9 => h9) rfl dX4_sum_12 ?_
        refine lv_iload_n hx hb dX4_sum_15 rfl (lv_at hl 2 rfl) ?_
        refine va_iald hx hb hK hP 1 0 rfl rfl (m_in (n := i) (by first | assumption | omega) (by decide)) dX4_sum_16 ?_
        refine lv_topi (nm_r (m_ldn (g := f) (n := i) (by omega)) ?_)
        refine lv_ixor hx hb dX4_sum_17 ?_
        refine lv_topi (nm_r (nx_xor _ _) ?_)
        refine lv_istore_n (lv' := [(1, .int (nI (x ^^^ (f i)))), (0, .ref a), (2, .int (nI i))]) hx hb dX4_sum_18 rfl hl (by decide) rfl (fun ls hl => ?_)
        refine lv_iinc (v := nI (i + 1)) (lv' := [(2, .int (nI (i + 1))), (1, .int (nI (x ^^^ (f i)))), (0, .ref a)]) hx hb dX4_sum_19 hl (k := 2) rfl (nI_add _ 1) (by decide) rfl (fun ls hl => ?_)
        refine lv_goto (tgt := 4) hx hb dX4_sum_22 (by decide) ?_
        exact ih4 (i + 1) (x ^^^ (f i)) _ _ ls (by first | assumption | omega) (by rw [hxr]; rfl) (by omega) hP hD hS (lv_sub hl [2, 1, 0] rfl)
  exact lp4_1 _ 0 0 _ _ ls (by first | assumption | omega) (rfl) (Nat.lt_succ_self _) hP hD hS (lv_sub hl [2, 1, 0] rfl)
