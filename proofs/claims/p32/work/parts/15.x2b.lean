set_option maxHeartbeats 4000000 in
set_option maxRecDepth 100000 in
theorem c_X2_trace (l : Launch) (D : va_G) (cY : Nat → ClassId) (a b : Nat) (bp : Nat → Nat) (x : Nat) (hxx : x < 65536) (hB : n_bp bp) : m_Mi l yX2_trace wsX2_trace 1 23 D cY [.ref a, .int (nI x)] [(a, .inr (2, [.ref b])), (b, .inl (cY 0, 256, .inl (m_nf bp)))] (fun (res : Int32) (u : Unit) => res = nI (n_tr x 16)) (fun (u : Unit) => [(a, .inr (2, [.ref b])), (b, .inl (cY 0, 256, .inl (m_nf bp)))]) := by
  refine m_enterI (cc := cX2_trace) (maxL := 5) (ret := (some .int)) (by decide +kernel) rfl (Nat.le_of_ble_eq_true rfl) ?_
  intro p e s m below meth c A ls C0 hP hD hl
  obtain ⟨hx, hb, hr, hml, hts, hown, hlocks, hK, hA⟩ := id C0
  generalize hQ : MQ below _ _ s 0 0 A = Q
  have hS : va_S A s.heap s.heap [] := va_S.rf
  have hl : lv_has ls 5 [(0, .ref a), (1, .int (nI x))] := hl
  refine lv_iconst (v := nI 0) hx hb dX2_trace_0 (by decide) ?_
  refine lv_istore_n (lv' := [(2, .int (nI 0)), (0, .ref a), (1, .int (nI x))]) hx hb dX2_trace_1 rfl hl (by decide) rfl (fun ls hl => ?_)
  refine lv_iload_n hx hb dX2_trace_2 rfl (lv_at hl 2 rfl) ?_
  refine lv_istore_n (lv' := [(3, .int (nI x)), (2, .int (nI 0)), (0, .ref a), (1, .int (nI x))]) hx hb dX2_trace_3 rfl hl (by decide) rfl (fun ls hl => ?_)
  refine lv_iconst (v := nI 0) hx hb dX2_trace_4 (by decide) ?_
  refine lv_istore (lv' := [(4, .int (nI 0)), (3, .int (nI x)), (2, .int (nI 0)), (0, .ref a), (1, .int (nI x))]) hx hb dX2_trace_5 hl (by decide) rfl (fun ls hl => ?_)
  have lp7_1 : ∀ (nn : Nat) (k : Nat) (z : Nat) (sq : Nat) (H : Heap) (locs : List Loc) (ls : Array Slot), (k ≤ 16) → (z = n_tr x k) → (sq = np x (2 ^ k)) → (sq < 65536) → 16 - k < nn → va_P D vwCl [(a, .inr (2, [.ref b])), (b, .inl (cY 0, 256, .inl (m_nf bp)))] H → va_D A [(a, .inr (2, [.ref b])), (b, .inl (cY 0, 256, .inl (m_nf bp)))] → va_S A s.heap H locs → lv_has ls 5 [(0, .ref a), (2, .int (nI z)), (3, .int (nI sq)), (4, .int (nI k))] → W p l e { frames := 1, cells := 0, slots := 0, locals := 23 } s m ([.ref a, .int (nI x)] : List Value).toArray below meth c H locs 0 0 Q (F0 m 7 ls []) := by
    intro nn
    induction nn with
    | zero => intros; omega
    | succ nn ih7 =>
      intro k z sq H locs ls hk hz hsq hsq1 hmz hP hD hS hl
      refine lv_iload hx hb dX2_trace_7 (lv_at hl 3 rfl) ?_
      refine lv_bipush (v := nI 16) hx hb dX2_trace_9 (by decide) ?_
      refine lv_icmp_ge (tgt := 30) hx hb dX2_trace_11 (by decide) (fun c11 => ?_) (fun c11 => ?_)
      · have c11 : 16 ≤ k := (nI_leI (a := 16) (b := k) (by first | omega | exact Nat.lt_of_le_of_lt Nat.and_le_right (by decide) | exact Nat.lt_trans (nm_lt _ _) (by decide) | exact Nat.lt_trans (np_lt _ _) (by decide)) (by first | omega | exact Nat.lt_of_le_of_lt Nat.and_le_right (by decide) | exact Nat.lt_trans (nm_lt _ _) (by decide) | exact Nat.lt_trans (np_lt _ _) (by decide))).mp c11
        refine lv_iload_n hx hb dX2_trace_30 rfl (lv_at hl 1 rfl) ?_
        subst hQ
        exact m_iret C0 hS dX2_trace_31 (u := ()) hP (by rw [hz, show k = 16 by omega])
      · have c11 : ¬ (16 ≤ k) := fun q => c11 ((nI_leI (a := 16) (b := k) (by first | omega | exact Nat.lt_of_le_of_lt Nat.and_le_right (by decide) | exact Nat.lt_trans (nm_lt _ _) (by decide) | exact Nat.lt_trans (np_lt _ _) (by decide)) (by first | omega | exact Nat.lt_of_le_of_lt Nat.and_le_right (by decide) | exact Nat.lt_trans (nm_lt _ _) (by decide) | exact Nat.lt_trans (np_lt _ _) (by decide))).mpr q)
        refine lv_iload_n hx hb dX2_trace_14 rfl (lv_at hl 1 rfl) ?_
        refine lv_iload_n hx hb dX2_trace_15 rfl (lv_at hl 2 rfl) ?_
        refine lv_ixor hx hb dX2_trace_16 ?_
        refine lv_topi (nm_r (nx_xor _ _) ?_)
        refine lv_istore_n (lv' := [(2, .int (nI (z ^^^ sq))), (0, .ref a), (3, .int (nI sq)), (4, .int (nI k))]) hx hb dX2_trace_17 rfl hl (by decide) rfl (fun ls hl => ?_)
        refine lv_aload_n hx hb dX2_trace_18 rfl (lv_at hl 1 rfl) ?_
        refine lv_iload_n hx hb dX2_trace_19 rfl (lv_at hl 2 rfl) ?_
        refine m_callVi (As := [.int (nI sq)]) (rest := []) C0 hl hP hD hS (c_X2_square l D cY a b bp sq (by first | assumption | omega | exact nm_lt _ _ | exact np_lt _ _ | decide) (by first | assumption | omega | exact nm_lt _ _ | exact np_lt _ _ | decide)) (cwV 1 hts gX2_trace_X2_square rfl rfl rfl (by decide +kernel) ⟨Nat.le_of_ble_eq_true rfl, Nat.le_of_ble_eq_true rfl⟩) dX2_trace_20 [0, 1] rfl rfl 0 rfl rfl rfl rfl (Nat.le_of_ble_eq_true rfl) (Nat.zero_le _) (Nat.zero_le _) (fun _ => rfl) (fun r3 u H2 locs hw hP hD hS => ?_)
        try dsimp only at hw
        obtain rfl := hw
        have hP : va_P D vwCl [(a, .inr (2, [.ref b])), (b, .inl (cY 0, 256, .inl (m_nf bp)))] H2 := hP
        have hD : va_D A [(a, .inr (2, [.ref b])), (b, .inl (cY 0, 256, .inl (m_nf bp)))] := hD
        refine lv_istore_n (lv' := [(3, .int (nI (nm sq sq))), (2, .int (nI (z ^^^ sq))), (0, .ref a), (4, .int (nI k))]) hx hb dX2_trace_23 rfl hl (by decide) rfl (fun ls hl => ?_)
        refine lv_iinc (v := nI (k + 1)) (lv' := [(4, .int (nI (k + 1))), (3, .int (nI (nm sq sq))), (2, .int (nI (z ^^^ sq))), (0, .ref a)]) hx hb dX2_trace_24 hl (k := 3) rfl (nI_add _ 1) (by decide) rfl (fun ls hl => ?_)
        refine lv_goto (tgt := 7) hx hb dX2_trace_27 (by decide) ?_
        exact ih7 (k + 1) (z ^^^ sq) (nm sq sq) _ _ ls (by first | assumption | omega) (by rw [hz, hsq]; rfl) (by rw [hsq, np_sq, Nat.pow_succ, Nat.mul_comm]) (nm_lt _ _) (by omega) hP hD hS (lv_sub hl [3, 2, 1, 0] rfl)
  exact lp7_1 _ 0 0 x _ _ ls (by first | assumption | omega) (rfl) ((np_1 hxx).symm) (by first | assumption | omega) (Nat.lt_succ_self _) hP hD hS (lv_sub hl [3, 2, 1, 0] rfl)
set_option maxHeartbeats 4000000 in
set_option maxRecDepth 100000 in
theorem c_X2_leastSolution (l : Launch) (D : va_G) (cY : Nat → ClassId) (a b : Nat) (bp : Nat → Nat) (x : Nat) (hxx : x < 65536) (hB : n_bp bp) : m_Mi l yX2_leastSolution wsX2_leastSolution 1 23 D cY [.ref a, .int (nI x)] [(a, .inr (2, [.ref b])), (b, .inl (cY 0, 256, .inl (m_nf bp)))] (fun (res : Int32) (u : Unit) => res = n_sol x) (fun (u : Unit) => [(a, .inr (2, [.ref b])), (b, .inl (cY 0, 256, .inl (m_nf bp)))]) := by
  refine m_enterI (cc := cX2_leastSolution) (maxL := 5) (ret := (some .int)) (by decide +kernel) rfl (Nat.le_of_ble_eq_true rfl) ?_
  intro p e s m below meth c A ls C0 hP hD hl
  obtain ⟨hx, hb, hr, hml, hts, hown, hlocks, hK, hA⟩ := id C0
  generalize hQ : MQ below _ _ s 0 0 A = Q
  have hS : va_S A s.heap s.heap [] := va_S.rf
  have hl : lv_has ls 5 [(0, .ref a), (1, .int (nI x))] := hl
  refine lv_iconst (v := nI 0) hx hb dX2_leastSolution_0 (by decide) ?_
  refine lv_istore_n (lv' := [(2, .int (nI 0)), (0, .ref a), (1, .int (nI x))]) hx hb dX2_leastSolution_1 rfl hl (by decide) rfl (fun ls hl => ?_)
  refine lv_iload_n hx hb dX2_leastSolution_2 rfl (lv_at hl 2 rfl) ?_
  refine lv_istore_n (lv' := [(3, .int (nI x)), (2, .int (nI 0)), (0, .ref a), (1, .int (nI x))]) hx hb dX2_leastSolution_3 rfl hl (by decide) rfl (fun ls hl => ?_)
  refine lv_bipush (v := nI 15) hx hb dX2_leastSolution_4 (by decide) ?_
  refine lv_istore (lv' := [(4, .int (nI 15)), (3, .int (nI x)), (2, .int (nI 0)), (0, .ref a), (1, .int (nI x))]) hx hb dX2_leastSolution_6 hl (by decide) rfl (fun ls hl => ?_)
  have lp8_1 : ∀ (nn : Nat) (k : Nat) (z : Nat) (re : Nat) (H : Heap) (locs : List Loc) (ls : Array Slot), (k ≤ 15) → (n_ls k z re = n_ls 15 0 x) → (re < 65536) → k < nn → va_P D vwCl [(a, .inr (2, [.ref b])), (b, .inl (cY 0, 256, .inl (m_nf bp)))] H → va_D A [(a, .inr (2, [.ref b])), (b, .inl (cY 0, 256, .inl (m_nf bp)))] → va_S A s.heap H locs → lv_has ls 5 [(0, .ref a), (2, .int (nI z)), (3, .int (nI re)), (4, .int (nI k))] → W p l e { frames := 1, cells := 0, slots := 0, locals := 23 } s m ([.ref a, .int (nI x)] : List Value).toArray below meth c H locs 0 0 Q (F0 m 8 ls []) := by
    intro nn
    induction nn with
    | zero => intros; omega
    | succ nn ih8 =>
      intro k z re H locs ls hk hv hre hmz hP hD hS hl
      refine lv_iload hx hb dX2_leastSolution_8 (lv_at hl 3 rfl) ?_
      refine lv_if_le (tgt := 54) hx hb dX2_leastSolution_10 (by decide) (fun c10 => ?_) (fun c10 => ?_)
      · have c10 : k ≤ 0 := (nI_leI (a := k) (b := 0) (by first | omega | exact Nat.lt_of_le_of_lt Nat.and_le_right (by decide) | exact Nat.lt_trans (nm_lt _ _) (by decide) | exact Nat.lt_trans (np_lt _ _) (by decide)) (by first | omega | exact Nat.lt_of_le_of_lt Nat.and_le_right (by decide) | exact Nat.lt_trans (nm_lt _ _) (by decide) | exact Nat.lt_trans (np_lt _ _) (by decide))).mp c10
        refine lv_iload_n hx hb dX2_leastSolution_54 rfl (lv_at hl 2 rfl) ?_
        refine lv_if_ne (tgt := 62) hx hb dX2_leastSolution_55 (by decide) (fun c55 => ?_) (fun c55 => ?_)
        · have c55 : ¬ (re = 0) := fun q => c55 ((nI_eq (a := re) (b := 0) (by first | omega | exact Nat.lt_of_le_of_lt Nat.and_le_right (by decide) | exact Nat.lt_trans (nm_lt _ _) (by decide) | exact Nat.lt_trans (np_lt _ _) (by decide)) (by first | omega | exact Nat.lt_of_le_of_lt Nat.and_le_right (by decide) | exact Nat.lt_trans (nm_lt _ _) (by decide) | exact Nat.lt_trans (np_lt _ _) (by decide))).mpr q)
          refine lv_iconst (v := (-1)) hx hb dX2_leastSolution_62 (by decide) ?_
          subst hQ
          exact m_iret C0 hS dX2_leastSolution_63 (u := ()) hP (by (have hk0 : k = 0 := by omega); subst hk0; rw [n_sol, ← hv]; first | exact (if_pos c55).symm | exact (if_neg c55).symm)
        · have c55 : re = 0 := (nI_eq (a := re) (b := 0) (by first | omega | exact Nat.lt_of_le_of_lt Nat.and_le_right (by decide) | exact Nat.lt_trans (nm_lt _ _) (by decide) | exact Nat.lt_trans (np_lt _ _) (by decide)) (by first | omega | exact Nat.lt_of_le_of_lt Nat.and_le_right (by decide) | exact Nat.lt_trans (nm_lt _ _) (by decide) | exact Nat.lt_trans (np_lt _ _) (by decide))).mp c55
          refine lv_iload_n hx hb dX2_leastSolution_58 rfl (lv_at hl 1 rfl) ?_
          refine lv_goto (tgt := 63) hx hb dX2_leastSolution_59 (by decide) ?_
          subst hQ
          exact m_iret C0 hS dX2_leastSolution_63 (u := ()) hP (by (have hk0 : k = 0 := by omega); subst hk0; rw [n_sol, ← hv]; first | exact (if_pos c55).symm | exact (if_neg c55).symm)
      · have c10 : ¬ (k ≤ 0) := fun q => c10 ((nI_leI (a := k) (b := 0) (by first | omega | exact Nat.lt_of_le_of_lt Nat.and_le_right (by decide) | exact Nat.lt_trans (nm_lt _ _) (by decide) | exact Nat.lt_trans (np_lt _ _) (by decide)) (by first | omega | exact Nat.lt_of_le_of_lt Nat.and_le_right (by decide) | exact Nat.lt_trans (nm_lt _ _) (by decide) | exact Nat.lt_trans (np_lt _ _) (by decide))).mpr q)
        refine lv_iload_n hx hb dX2_leastSolution_13 rfl (lv_at hl 2 rfl) ?_
        refine lv_iload hx hb dX2_leastSolution_14 (lv_at hl 3 rfl) ?_
        refine lv_iconst (v := nI 1) hx hb dX2_leastSolution_16 (by decide) ?_
        refine lv_isub hx hb dX2_leastSolution_17 ?_
        refine lv_topi (nm_r (pk_sub (by omega)) ?_)
        refine lv_ishr hx hb dX2_leastSolution_18 ?_
        refine lv_topi (nm_r (m_shr _ _ (by omega) (by omega)) ?_)
        refine lv_iconst (v := nI 1) hx hb dX2_leastSolution_19 (by decide) ?_
        refine lv_iand hx hb dX2_leastSolution_20 ?_
        refine lv_topi (nm_r (nx_and _ _) ?_)
        refine lv_iconst (v := nI 1) hx hb dX2_leastSolution_21 (by decide) ?_
        refine lv_icmp_ne (tgt := 48) hx hb dX2_leastSolution_22 (by decide) (fun c22 => ?_) (fun c22 => ?_)
        · have c22 : ¬ (((re >>> (k - 1)) &&& 1) = 1) := fun q => c22 ((nI_eq (a := ((re >>> (k - 1)) &&& 1)) (b := 1) (by first | omega | exact Nat.lt_of_le_of_lt Nat.and_le_right (by decide) | exact Nat.lt_trans (nm_lt _ _) (by decide) | exact Nat.lt_trans (np_lt _ _) (by decide)) (by first | omega | exact Nat.lt_of_le_of_lt Nat.and_le_right (by decide) | exact Nat.lt_trans (nm_lt _ _) (by decide) | exact Nat.lt_trans (np_lt _ _) (by decide))).mpr q)
          refine lv_iinc (v := nI (k - 1)) (lv' := [(4, .int (nI (k - 1))), (0, .ref a), (2, .int (nI z)), (3, .int (nI re))]) hx hb dX2_leastSolution_48 hl (k := 3) rfl (m_dec (by omega)) (by decide) rfl (fun ls hl => ?_)
          refine lv_goto (tgt := 8) hx hb dX2_leastSolution_51 (by decide) ?_
          exact ih8 (k - 1) z re _ _ ls (by first | assumption | omega) (by first | (rw [n_ls_f (by omega) (fun q => c22 ((n_tb re (k - 1)).mpr q))]; exact hv) | (rw [n_ls_t (by omega) ((n_tb re (k - 1)).mp c22)]; exact hv)) (by first | assumption | exact n_x16 hre (n_x16 (nm_lt _ _) (n_sh1 (by omega)))) (by omega) hP hD hS (lv_sub hl [1, 2, 3, 0] rfl)
        · have c22 : ((re >>> (k - 1)) &&& 1) = 1 := (nI_eq (a := ((re >>> (k - 1)) &&& 1)) (b := 1) (by first | omega | exact Nat.lt_of_le_of_lt Nat.and_le_right (by decide) | exact Nat.lt_trans (nm_lt _ _) (by decide) | exact Nat.lt_trans (np_lt _ _) (by decide)) (by first | omega | exact Nat.lt_of_le_of_lt Nat.and_le_right (by decide) | exact Nat.lt_trans (nm_lt _ _) (by decide) | exact Nat.lt_trans (np_lt _ _) (by decide))).mp c22
          refine lv_iload_n hx hb dX2_leastSolution_25 rfl (lv_at hl 1 rfl) ?_
          refine lv_iconst (v := nI 1) hx hb dX2_leastSolution_26 (by decide) ?_
          refine lv_iload hx hb dX2_leastSolution_27 (lv_at hl 3 rfl) ?_
          refine lv_ishl hx hb dX2_leastSolution_29 ?_
          refine lv_topi (nm_r (m_shl _ _ (by omega)) ?_)
          refine lv_ixor hx hb dX2_leastSolution_30 ?_
          refine lv_topi (nm_r (nx_xor _ _) ?_)
          refine lv_istore_n (lv' := [(2, .int (nI (z ^^^ (1 <<< k)))), (0, .ref a), (3, .int (nI re)), (4, .int (nI k))]) hx hb dX2_leastSolution_31 rfl hl (by decide) rfl (fun ls hl => ?_)
          refine lv_iload_n hx hb dX2_leastSolution_32 rfl (lv_at hl 2 rfl) ?_
          refine lv_aload_n hx hb dX2_leastSolution_33 rfl (lv_at hl 1 rfl) ?_
          refine lv_iconst (v := nI 1) hx hb dX2_leastSolution_34 (by decide) ?_
          refine lv_iload hx hb dX2_leastSolution_35 (lv_at hl 3 rfl) ?_
          refine lv_ishl hx hb dX2_leastSolution_37 ?_
          refine lv_topi (nm_r (m_shl _ _ (by omega)) ?_)
          refine m_callVi (As := [.int (nI (1 <<< k))]) (rest := [.int (nI re)]) C0 hl hP hD hS (c_X2_square l D cY a b bp (1 <<< k) (n_sh1 (by omega)) (by first | assumption | omega | exact nm_lt _ _ | exact np_lt _ _ | decide)) (cwV 1 hts gX2_leastSolution_X2_square rfl rfl rfl (by decide +kernel) ⟨Nat.le_of_ble_eq_true rfl, Nat.le_of_ble_eq_true rfl⟩) dX2_leastSolution_38 [0, 1] rfl rfl 0 rfl rfl rfl rfl (Nat.le_of_ble_eq_true rfl) (Nat.zero_le _) (Nat.zero_le _) (fun _ => rfl) (fun r3 u H2 locs hw hP hD hS => ?_)
          try dsimp only at hw
          obtain rfl := hw
          have hP : va_P D vwCl [(a, .inr (2, [.ref b])), (b, .inl (cY 0, 256, .inl (m_nf bp)))] H2 := hP
          have hD : va_D A [(a, .inr (2, [.ref b])), (b, .inl (cY 0, 256, .inl (m_nf bp)))] := hD
          refine lv_iconst (v := nI 1) hx hb dX2_leastSolution_41 (by decide) ?_
          refine lv_iload hx hb dX2_leastSolution_42 (lv_at hl 3 rfl) ?_
          refine lv_ishl hx hb dX2_leastSolution_44 ?_
          refine lv_topi (nm_r (m_shl _ _ (by omega)) ?_)
          refine lv_ixor hx hb dX2_leastSolution_45 ?_
          refine lv_topi (nm_r (nx_xor _ _) ?_)
          refine lv_ixor hx hb dX2_leastSolution_46 ?_
          refine lv_topi (nm_r (nx_xor _ _) ?_)
          refine lv_istore_n (lv' := [(3, .int (nI (re ^^^ ((nm (1 <<< k) (1 <<< k)) ^^^ (1 <<< k))))), (2, .int (nI (z ^^^ (1 <<< k)))), (0, .ref a), (4, .int (nI k))]) hx hb dX2_leastSolution_47 rfl hl (by decide) rfl (fun ls hl => ?_)
          refine lv_iinc (v := nI (k - 1)) (lv' := [(4, .int (nI (k - 1))), (3, .int (nI (re ^^^ ((nm (1 <<< k) (1 <<< k)) ^^^ (1 <<< k))))), (2, .int (nI (z ^^^ (1 <<< k)))), (0, .ref a)]) hx hb dX2_leastSolution_48 hl (k := 3) rfl (m_dec (by omega)) (by decide) rfl (fun ls hl => ?_)
          refine lv_goto (tgt := 8) hx hb dX2_leastSolution_51 (by decide) ?_
          exact ih8 (k - 1) (z ^^^ (1 <<< k)) (re ^^^ ((nm (1 <<< k) (1 <<< k)) ^^^ (1 <<< k))) _ _ ls (by first | assumption | omega) (by first | (rw [n_ls_f (by omega) (fun q => c22 ((n_tb re (k - 1)).mpr q))]; exact hv) | (rw [n_ls_t (by omega) ((n_tb re (k - 1)).mp c22)]; exact hv)) (by first | assumption | exact n_x16 hre (n_x16 (nm_lt _ _) (n_sh1 (by omega)))) (by omega) hP hD hS (lv_sub hl [3, 2, 1, 0] rfl)
  exact lp8_1 _ 15 0 x _ _ ls (by first | assumption | omega) (rfl) (by first | assumption | omega) (Nat.lt_succ_self _) hP hD hS (lv_sub hl [3, 2, 1, 0] rfl)
set_option maxHeartbeats 4000000 in
set_option maxRecDepth 100000 in
theorem c_X2_tbh_0 (l : Launch) (D : va_G) (cY : Nat → ClassId) (x y : Nat) (hxx : x < 2) (hyy : y < 2) : m_Mi l yX2_timesByHalves wsX2_timesByHalves 0 0 D cY [.int (nI x), .int (nI y), .int (nI 0)] [] (fun (res : Int32) (u : Unit) => res = nI (n_1 x y)) (fun (u : Unit) => []) := by
  refine m_enterI (cc := cX2_timesByHalves) (maxL := 12) (ret := (some .int)) (by decide +kernel) rfl (Nat.le_of_ble_eq_true rfl) ?_
  intro p e s m below meth c A ls C0 hP hD hl
  obtain ⟨hx, hb, hr, hml, hts, hown, hlocks, hK, hA⟩ := id C0
  generalize hQ : MQ below _ _ s 0 0 A = Q
  have hS : va_S A s.heap s.heap [] := va_S.rf
  have hl : lv_has ls 12 [(0, .int (nI x)), (1, .int (nI y)), (2, .int (nI 0))] := hl
  refine lv_iload_n hx hb dX2_timesByHalves_0 rfl (lv_at hl 2 rfl) ?_
  refine lv_iconst (v := nI 1) hx hb dX2_timesByHalves_1 (by decide) ?_
  refine lv_icmp_lt (tgt := 15) hx hb dX2_timesByHalves_2 (by decide) (fun c2 => ?_) (fun c2 => ?_)
  · refine lv_iload_n hx hb dX2_timesByHalves_15 rfl (lv_at hl 0 rfl) ?_
    refine lv_iload_n hx hb dX2_timesByHalves_16 rfl (lv_at hl 1 rfl) ?_
    refine lv_imul hx hb dX2_timesByHalves_17 ?_
    refine lv_topi (nm_r (pk_mul _ _) ?_)
    subst hQ
    exact m_iret C0 hS dX2_timesByHalves_18 (u := ()) hP (congrArg nI (n_sm n_L1 hxx hyy))
  · exact absurd c2 (by decide)
set_option maxHeartbeats 4000000 in
set_option maxRecDepth 100000 in
theorem c_X2_tbh_1 (l : Launch) (D : va_G) (cY : Nat → ClassId) (x y : Nat) (hxx : x < 4) (hyy : y < 4) : m_Mi l yX2_timesByHalves wsX2_timesByHalves 1 31 D cY [.int (nI x), .int (nI y), .int (nI 1)] [] (fun (res : Int32) (u : Unit) => res = nI (n_2 x y)) (fun (u : Unit) => []) := by
  refine m_enterI (cc := cX2_timesByHalves) (maxL := 12) (ret := (some .int)) (by decide +kernel) rfl (Nat.le_of_ble_eq_true rfl) ?_
  intro p e s m below meth c A ls C0 hP hD hl
  obtain ⟨hx, hb, hr, hml, hts, hown, hlocks, hK, hA⟩ := id C0
  generalize hQ : MQ below _ _ s 0 0 A = Q
  have hS : va_S A s.heap s.heap [] := va_S.rf
  have hl : lv_has ls 12 [(0, .int (nI x)), (1, .int (nI y)), (2, .int (nI 1))] := hl
  refine lv_iload_n hx hb dX2_timesByHalves_0 rfl (lv_at hl 2 rfl) ?_
  refine lv_iconst (v := nI 1) hx hb dX2_timesByHalves_1 (by decide) ?_
  refine lv_icmp_lt (tgt := 15) hx hb dX2_timesByHalves_2 (by decide) (fun c2 => ?_) (fun c2 => ?_)
  · exact absurd c2 (by decide)
  · refine lv_iload_n hx hb dX2_timesByHalves_5 rfl (lv_at hl 0 rfl) ?_
    refine lv_iconst (v := nI 2) hx hb dX2_timesByHalves_6 (by decide) ?_
    refine lv_icmp_lt (tgt := 15) hx hb dX2_timesByHalves_7 (by decide) (fun c7 => ?_) (fun c7 => ?_)
    · have c7 : x < 2 := (nI_ltI (a := x) (b := 2) (by first | omega | exact Nat.lt_of_le_of_lt Nat.and_le_right (by decide) | exact Nat.lt_trans (nm_lt _ _) (by decide) | exact Nat.lt_trans (np_lt _ _) (by decide)) (by first | omega | exact Nat.lt_of_le_of_lt Nat.and_le_right (by decide) | exact Nat.lt_trans (nm_lt _ _) (by decide) | exact Nat.lt_trans (np_lt _ _) (by decide))).mp c7
      refine lv_iload_n hx hb dX2_timesByHalves_15 rfl (lv_at hl 0 rfl) ?_
      refine lv_iload_n hx hb dX2_timesByHalves_16 rfl (lv_at hl 1 rfl) ?_
      refine lv_imul hx hb dX2_timesByHalves_17 ?_
      refine lv_topi (nm_r (pk_mul _ _) ?_)
      subst hQ
      exact m_iret C0 hS dX2_timesByHalves_18 (u := ()) hP (congrArg nI (by first | exact n_sm n_L2 (by omega) hyy | exact n_sm' n_L2 hxx (by omega)))
    · have c7 : ¬ (x < 2) := fun q => c7 ((nI_ltI (a := x) (b := 2) (by first | omega | exact Nat.lt_of_le_of_lt Nat.and_le_right (by decide) | exact Nat.lt_trans (nm_lt _ _) (by decide) | exact Nat.lt_trans (np_lt _ _) (by decide)) (by first | omega | exact Nat.lt_of_le_of_lt Nat.and_le_right (by decide) | exact Nat.lt_trans (nm_lt _ _) (by decide) | exact Nat.lt_trans (np_lt _ _) (by decide))).mpr q)
      refine lv_iload_n hx hb dX2_timesByHalves_10 rfl (lv_at hl 1 rfl) ?_
      refine lv_iconst (v := nI 2) hx hb dX2_timesByHalves_11 (by decide) ?_
      refine lv_icmp_ge (tgt := 19) hx hb dX2_timesByHalves_12 (by decide) (fun c12 => ?_) (fun c12 => ?_)
      · have c12 : 2 ≤ y := (nI_leI (a := 2) (b := y) (by first | omega | exact Nat.lt_of_le_of_lt Nat.and_le_right (by decide) | exact Nat.lt_trans (nm_lt _ _) (by decide) | exact Nat.lt_trans (np_lt _ _) (by decide)) (by first | omega | exact Nat.lt_of_le_of_lt Nat.and_le_right (by decide) | exact Nat.lt_trans (nm_lt _ _) (by decide) | exact Nat.lt_trans (np_lt _ _) (by decide))).mp c12
        refine lv_iconst (v := nI 1) hx hb dX2_timesByHalves_19 (by decide) ?_
        refine lv_iload_n hx hb dX2_timesByHalves_20 rfl (lv_at hl 2 rfl) ?_
        refine lv_ishl hx hb dX2_timesByHalves_21 ?_
        refine lv_topi (nm_r (show _ = nI 2 from by decide) ?_)
        refine lv_iconst (v := nI 1) hx hb dX2_timesByHalves_22 (by decide) ?_
        refine lv_isub hx hb dX2_timesByHalves_23 ?_
        refine lv_topi (nm_r (show _ = nI 1 from by decide) ?_)
        refine lv_istore_n (lv' := [(3, .int (nI 1)), (0, .int (nI x)), (1, .int (nI y)), (2, .int (nI 1))]) hx hb dX2_timesByHalves_24 rfl hl (by decide) rfl (fun ls hl => ?_)
        refine lv_iload_n hx hb dX2_timesByHalves_25 rfl (lv_at hl 1 rfl) ?_
        refine lv_iload_n hx hb dX2_timesByHalves_26 rfl (lv_at hl 3 rfl) ?_
        refine lv_ishr hx hb dX2_timesByHalves_27 ?_
        refine lv_topi (nm_r (m_shr _ _ (by omega) (by omega)) ?_)
        refine lv_istore (lv' := [(4, .int (nI (x >>> 1))), (3, .int (nI 1)), (0, .int (nI x)), (1, .int (nI y)), (2, .int (nI 1))]) hx hb dX2_timesByHalves_28 hl (by decide) rfl (fun ls hl => ?_)
        refine lv_iload_n hx hb dX2_timesByHalves_30 rfl (lv_at hl 2 rfl) ?_
        refine lv_iload_n hx hb dX2_timesByHalves_31 rfl (lv_at hl 1 rfl) ?_
        refine lv_iand hx hb dX2_timesByHalves_32 ?_
        refine lv_topi (nm_r (nx_and _ _) ?_)
        refine lv_istore (lv' := [(5, .int (nI (x &&& 1))), (4, .int (nI (x >>> 1))), (3, .int (nI 1)), (0, .int (nI x)), (1, .int (nI y)), (2, .int (nI 1))]) hx hb dX2_timesByHalves_33 hl (by decide) rfl (fun ls hl => ?_)
        refine lv_iload_n hx hb dX2_timesByHalves_35 rfl (lv_at hl 4 rfl) ?_
        refine lv_iload_n hx hb dX2_timesByHalves_36 rfl (lv_at hl 5 rfl) ?_
        refine lv_ishr hx hb dX2_timesByHalves_37 ?_
        refine lv_topi (nm_r (m_shr _ _ (by omega) (by omega)) ?_)
        refine lv_istore (lv' := [(6, .int (nI (y >>> 1))), (5, .int (nI (x &&& 1))), (4, .int (nI (x >>> 1))), (3, .int (nI 1)), (0, .int (nI x)), (1, .int (nI y)), (2, .int (nI 1))]) hx hb dX2_timesByHalves_38 hl (by decide) rfl (fun ls hl => ?_)
        refine lv_iload_n hx hb dX2_timesByHalves_40 rfl (lv_at hl 5 rfl) ?_
        refine lv_iload_n hx hb dX2_timesByHalves_41 rfl (lv_at hl 3 rfl) ?_
        refine lv_iand hx hb dX2_timesByHalves_42 ?_
        refine lv_topi (nm_r (nx_and _ _) ?_)
        refine lv_istore (lv' := [(7, .int (nI (y &&& 1))), (6, .int (nI (y >>> 1))), (5, .int (nI (x &&& 1))), (4, .int (nI (x >>> 1))), (3, .int (nI 1)), (0, .int (nI x)), (1, .int (nI y)), (2, .int (nI 1))]) hx hb dX2_timesByHalves_43 hl (by decide) rfl (fun ls hl => ?_)
        refine lv_iload hx hb dX2_timesByHalves_45 (lv_at hl 2 rfl) ?_
        refine lv_iload hx hb dX2_timesByHalves_47 (lv_at hl 0 rfl) ?_
        refine lv_iload_n hx hb dX2_timesByHalves_49 rfl (lv_at hl 7 rfl) ?_
        refine lv_iconst (v := nI 2) hx hb dX2_timesByHalves_50 (by decide) ?_
        refine lv_idiv hx hb dX2_timesByHalves_51 (by decide) ?_
        refine lv_topi (nm_r (show _ = nI 0 from by decide) ?_)
        refine m_callSi (As := [.int (nI (x &&& 1)), .int (nI (y &&& 1)), .int (nI 0)]) (rest := []) C0 hl hP hD hS (c_X2_tbh_0 l D cY (x &&& 1) (y &&& 1) (by first | decide | exact Nat.lt_of_le_of_lt Nat.and_le_right (by decide) | (rw [Nat.shiftRight_eq_div_pow]; omega) | exact Nat.xor_lt_two_pow (n := 1) (by rw [Nat.shiftRight_eq_div_pow]; omega) (Nat.lt_of_le_of_lt Nat.and_le_right (by decide)) | exact n_L1.2.2.2.1 _ _) (by first | decide | exact Nat.lt_of_le_of_lt Nat.and_le_right (by decide) | (rw [Nat.shiftRight_eq_div_pow]; omega) | exact Nat.xor_lt_two_pow (n := 1) (by rw [Nat.shiftRight_eq_div_pow]; omega) (Nat.lt_of_le_of_lt Nat.and_le_right (by decide)) | exact n_L1.2.2.2.1 _ _)) (va_cwS 3 hts gX2_timesByHalves_X2_timesByHalves rfl rfl rfl (by decide +kernel) ⟨Nat.le_of_ble_eq_true rfl, Nat.le_of_ble_eq_true rfl⟩) dX2_timesByHalves_52 [] rfl rfl rfl (Nat.le_of_ble_eq_true rfl) (Nat.zero_le _) (Nat.zero_le _) (fun _ => rfl) (fun r2 u H1 locs hw hP hD hS => ?_)
        try dsimp only at hw
        obtain rfl := hw
        have hP : va_P D vwCl [] H1 := hP
        have hD : va_D A [] := hD
        refine lv_istore (lv' := [(8, .int (nI (n_1 (x &&& 1) (y &&& 1)))), (7, .int (nI (y &&& 1))), (6, .int (nI (y >>> 1))), (5, .int (nI (x &&& 1))), (4, .int (nI (x >>> 1))), (3, .int (nI 1)), (0, .int (nI x)), (1, .int (nI y)), (2, .int (nI 1))]) hx hb dX2_timesByHalves_55 hl (by decide) rfl (fun ls hl => ?_)
        refine lv_iload hx hb dX2_timesByHalves_57 (lv_at hl 4 rfl) ?_
        refine lv_iload hx hb dX2_timesByHalves_59 (lv_at hl 2 rfl) ?_
        refine lv_iload_n hx hb dX2_timesByHalves_61 rfl (lv_at hl 8 rfl) ?_
        refine lv_iconst (v := nI 2) hx hb dX2_timesByHalves_62 (by decide) ?_
        refine lv_idiv hx hb dX2_timesByHalves_63 (by decide) ?_
        refine lv_topi (nm_r (show _ = nI 0 from by decide) ?_)
        refine m_callSi (As := [.int (nI (x >>> 1)), .int (nI (y >>> 1)), .int (nI 0)]) (rest := []) C0 hl hP hD hS (c_X2_tbh_0 l D cY (x >>> 1) (y >>> 1) (by first | decide | exact Nat.lt_of_le_of_lt Nat.and_le_right (by decide) | (rw [Nat.shiftRight_eq_div_pow]; omega) | exact Nat.xor_lt_two_pow (n := 1) (by rw [Nat.shiftRight_eq_div_pow]; omega) (Nat.lt_of_le_of_lt Nat.and_le_right (by decide)) | exact n_L1.2.2.2.1 _ _) (by first | decide | exact Nat.lt_of_le_of_lt Nat.and_le_right (by decide) | (rw [Nat.shiftRight_eq_div_pow]; omega) | exact Nat.xor_lt_two_pow (n := 1) (by rw [Nat.shiftRight_eq_div_pow]; omega) (Nat.lt_of_le_of_lt Nat.and_le_right (by decide)) | exact n_L1.2.2.2.1 _ _)) (va_cwS 3 hts gX2_timesByHalves_X2_timesByHalves rfl rfl rfl (by decide +kernel) ⟨Nat.le_of_ble_eq_true rfl, Nat.le_of_ble_eq_true rfl⟩) dX2_timesByHalves_64 [] rfl rfl rfl (Nat.le_of_ble_eq_true rfl) (Nat.zero_le _) (Nat.zero_le _) (fun _ => rfl) (fun r4 u H3 locs hw hP hD hS => ?_)
        try dsimp only at hw
        obtain rfl := hw
        have hP : va_P D vwCl [] H3 := hP
        have hD : va_D A [] := hD
        refine lv_istore (lv' := [(9, .int (nI (n_1 (x >>> 1) (y >>> 1)))), (8, .int (nI (n_1 (x &&& 1) (y &&& 1)))), (7, .int (nI (y &&& 1))), (6, .int (nI (y >>> 1))), (5, .int (nI (x &&& 1))), (4, .int (nI (x >>> 1))), (3, .int (nI 1)), (0, .int (nI x)), (1, .int (nI y)), (2, .int (nI 1))]) hx hb dX2_timesByHalves_67 hl (by decide) rfl (fun ls hl => ?_)
        refine lv_iload hx hb dX2_timesByHalves_69 (lv_at hl 5 rfl) ?_
        refine lv_iload hx hb dX2_timesByHalves_71 (lv_at hl 4 rfl) ?_
        refine lv_ixor hx hb dX2_timesByHalves_73 ?_
        refine lv_topi (nm_r (nx_xor _ _) ?_)
        refine lv_iload hx hb dX2_timesByHalves_74 (lv_at hl 3 rfl) ?_
        refine lv_iload hx hb dX2_timesByHalves_76 (lv_at hl 2 rfl) ?_
        refine lv_ixor hx hb dX2_timesByHalves_78 ?_
        refine lv_topi (nm_r (nx_xor _ _) ?_)
        refine lv_iload_n hx hb dX2_timesByHalves_79 rfl (lv_at hl 9 rfl) ?_
        refine lv_iconst (v := nI 2) hx hb dX2_timesByHalves_80 (by decide) ?_
        refine lv_idiv hx hb dX2_timesByHalves_81 (by decide) ?_
        refine lv_topi (nm_r (show _ = nI 0 from by decide) ?_)
        refine m_callSi (As := [.int (nI ((x >>> 1) ^^^ (x &&& 1))), .int (nI ((y >>> 1) ^^^ (y &&& 1))), .int (nI 0)]) (rest := []) C0 hl hP hD hS (c_X2_tbh_0 l D cY ((x >>> 1) ^^^ (x &&& 1)) ((y >>> 1) ^^^ (y &&& 1)) (by first | decide | exact Nat.lt_of_le_of_lt Nat.and_le_right (by decide) | (rw [Nat.shiftRight_eq_div_pow]; omega) | exact Nat.xor_lt_two_pow (n := 1) (by rw [Nat.shiftRight_eq_div_pow]; omega) (Nat.lt_of_le_of_lt Nat.and_le_right (by decide)) | exact n_L1.2.2.2.1 _ _) (by first | decide | exact Nat.lt_of_le_of_lt Nat.and_le_right (by decide) | (rw [Nat.shiftRight_eq_div_pow]; omega) | exact Nat.xor_lt_two_pow (n := 1) (by rw [Nat.shiftRight_eq_div_pow]; omega) (Nat.lt_of_le_of_lt Nat.and_le_right (by decide)) | exact n_L1.2.2.2.1 _ _)) (va_cwS 3 hts gX2_timesByHalves_X2_timesByHalves rfl rfl rfl (by decide +kernel) ⟨Nat.le_of_ble_eq_true rfl, Nat.le_of_ble_eq_true rfl⟩) dX2_timesByHalves_82 [] rfl rfl rfl (Nat.le_of_ble_eq_true rfl) (Nat.zero_le _) (Nat.zero_le _) (fun _ => rfl) (fun r6 u H5 locs hw hP hD hS => ?_)
        try dsimp only at hw
        obtain rfl := hw
        have hP : va_P D vwCl [] H5 := hP
        have hD : va_D A [] := hD
        refine lv_istore (lv' := [(10, .int (nI (n_1 ((x >>> 1) ^^^ (x &&& 1)) ((y >>> 1) ^^^ (y &&& 1))))), (9, .int (nI (n_1 (x >>> 1) (y >>> 1)))), (8, .int (nI (n_1 (x &&& 1) (y &&& 1)))), (7, .int (nI (y &&& 1))), (6, .int (nI (y >>> 1))), (5, .int (nI (x &&& 1))), (4, .int (nI (x >>> 1))), (3, .int (nI 1)), (0, .int (nI x)), (1, .int (nI y)), (2, .int (nI 1))]) hx hb dX2_timesByHalves_85 hl (by decide) rfl (fun ls hl => ?_)
        refine lv_iload hx hb dX2_timesByHalves_87 (lv_at hl 1 rfl) ?_
        refine lv_iconst (v := nI 1) hx hb dX2_timesByHalves_89 (by decide) ?_
        refine lv_iload_n hx hb dX2_timesByHalves_90 rfl (lv_at hl 10 rfl) ?_
        refine lv_iconst (v := nI 1) hx hb dX2_timesByHalves_91 (by decide) ?_
        refine lv_isub hx hb dX2_timesByHalves_92 ?_
        refine lv_topi (nm_r (show _ = nI 0 from by decide) ?_)
        refine lv_ishl hx hb dX2_timesByHalves_93 ?_
        refine lv_topi (nm_r (show _ = nI 1 from by decide) ?_)
        refine lv_iload_n hx hb dX2_timesByHalves_94 rfl (lv_at hl 10 rfl) ?_
        refine lv_iconst (v := nI 2) hx hb dX2_timesByHalves_95 (by decide) ?_
        refine lv_idiv hx hb dX2_timesByHalves_96 (by decide) ?_
        refine lv_topi (nm_r (show _ = nI 0 from by decide) ?_)
        refine m_callSi (As := [.int (nI (n_1 (x >>> 1) (y >>> 1))), .int (nI 1), .int (nI 0)]) (rest := []) C0 hl hP hD hS (c_X2_tbh_0 l D cY (n_1 (x >>> 1) (y >>> 1)) 1 (by first | decide | exact Nat.lt_of_le_of_lt Nat.and_le_right (by decide) | (rw [Nat.shiftRight_eq_div_pow]; omega) | exact Nat.xor_lt_two_pow (n := 1) (by rw [Nat.shiftRight_eq_div_pow]; omega) (Nat.lt_of_le_of_lt Nat.and_le_right (by decide)) | exact n_L1.2.2.2.1 _ _) (by first | decide | exact Nat.lt_of_le_of_lt Nat.and_le_right (by decide) | (rw [Nat.shiftRight_eq_div_pow]; omega) | exact Nat.xor_lt_two_pow (n := 1) (by rw [Nat.shiftRight_eq_div_pow]; omega) (Nat.lt_of_le_of_lt Nat.and_le_right (by decide)) | exact n_L1.2.2.2.1 _ _)) (va_cwS 3 hts gX2_timesByHalves_X2_timesByHalves rfl rfl rfl (by decide +kernel) ⟨Nat.le_of_ble_eq_true rfl, Nat.le_of_ble_eq_true rfl⟩) dX2_timesByHalves_97 [] rfl rfl rfl (Nat.le_of_ble_eq_true rfl) (Nat.zero_le _) (Nat.zero_le _) (fun _ => rfl) (fun r8 u H7 locs hw hP hD hS => ?_)
        try dsimp only at hw
        obtain rfl := hw
        have hP : va_P D vwCl [] H7 := hP
        have hD : va_D A [] := hD
        refine lv_istore (lv' := [(11, .int (nI (n_1 (n_1 (x >>> 1) (y >>> 1)) 1))), (10, .int (nI (n_1 ((x >>> 1) ^^^ (x &&& 1)) ((y >>> 1) ^^^ (y &&& 1))))), (9, .int (nI (n_1 (x >>> 1) (y >>> 1)))), (8, .int (nI (n_1 (x &&& 1) (y &&& 1)))), (7, .int (nI (y &&& 1))), (6, .int (nI (y >>> 1))), (5, .int (nI (x &&& 1))), (4, .int (nI (x >>> 1))), (3, .int (nI 1)), (0, .int (nI x)), (1, .int (nI y)), (2, .int (nI 1))]) hx hb dX2_timesByHalves_100 hl (by decide) rfl (fun ls hl => ?_)
        refine lv_iload hx hb dX2_timesByHalves_102 (lv_at hl 1 rfl) ?_
        refine lv_iload hx hb dX2_timesByHalves_104 (lv_at hl 3 rfl) ?_
        refine lv_ixor hx hb dX2_timesByHalves_106 ?_
        refine lv_topi (nm_r (nx_xor _ _) ?_)
        refine lv_iload_n hx hb dX2_timesByHalves_107 rfl (lv_at hl 11 rfl) ?_
        refine lv_ishl hx hb dX2_timesByHalves_108 ?_
        refine lv_topi (nm_r (m_shl _ _ (by omega)) ?_)
        refine lv_iload hx hb dX2_timesByHalves_109 (lv_at hl 0 rfl) ?_
        refine lv_ixor hx hb dX2_timesByHalves_111 ?_
        refine lv_topi (nm_r (nx_xor _ _) ?_)
        refine lv_iload hx hb dX2_timesByHalves_112 (lv_at hl 3 rfl) ?_
        refine lv_ixor hx hb dX2_timesByHalves_114 ?_
        refine lv_topi (nm_r (nx_xor _ _) ?_)
        subst hQ
        exact m_iret C0 hS dX2_timesByHalves_115 (u := ()) hP (congrArg nI (n_kar (k := 1) (c := 1) (m := 1) n_L1 (by decide) x y))
      · have c12 : ¬ (2 ≤ y) := fun q => c12 ((nI_leI (a := 2) (b := y) (by first | omega | exact Nat.lt_of_le_of_lt Nat.and_le_right (by decide) | exact Nat.lt_trans (nm_lt _ _) (by decide) | exact Nat.lt_trans (np_lt _ _) (by decide)) (by first | omega | exact Nat.lt_of_le_of_lt Nat.and_le_right (by decide) | exact Nat.lt_trans (nm_lt _ _) (by decide) | exact Nat.lt_trans (np_lt _ _) (by decide))).mpr q)
        refine lv_iload_n hx hb dX2_timesByHalves_15 rfl (lv_at hl 0 rfl) ?_
        refine lv_iload_n hx hb dX2_timesByHalves_16 rfl (lv_at hl 1 rfl) ?_
        refine lv_imul hx hb dX2_timesByHalves_17 ?_
        refine lv_topi (nm_r (pk_mul _ _) ?_)
        subst hQ
        exact m_iret C0 hS dX2_timesByHalves_18 (u := ()) hP (congrArg nI (by first | exact n_sm n_L2 (by omega) hyy | exact n_sm' n_L2 hxx (by omega)))
set_option maxHeartbeats 4000000 in
set_option maxRecDepth 100000 in
theorem c_X2_tbh_2 (l : Launch) (D : va_G) (cY : Nat → ClassId) (x y : Nat) (hxx : x < 16) (hyy : y < 16) : m_Mi l yX2_timesByHalves wsX2_timesByHalves 2 62 D cY [.int (nI x), .int (nI y), .int (nI 2)] [] (fun (res : Int32) (u : Unit) => res = nI (n_4 x y)) (fun (u : Unit) => []) := by
  refine m_enterI (cc := cX2_timesByHalves) (maxL := 12) (ret := (some .int)) (by decide +kernel) rfl (Nat.le_of_ble_eq_true rfl) ?_
  intro p e s m below meth c A ls C0 hP hD hl
  obtain ⟨hx, hb, hr, hml, hts, hown, hlocks, hK, hA⟩ := id C0
  generalize hQ : MQ below _ _ s 0 0 A = Q
  have hS : va_S A s.heap s.heap [] := va_S.rf
  have hl : lv_has ls 12 [(0, .int (nI x)), (1, .int (nI y)), (2, .int (nI 2))] := hl
  refine lv_iload_n hx hb dX2_timesByHalves_0 rfl (lv_at hl 2 rfl) ?_
  refine lv_iconst (v := nI 1) hx hb dX2_timesByHalves_1 (by decide) ?_
  refine lv_icmp_lt (tgt := 15) hx hb dX2_timesByHalves_2 (by decide) (fun c2 => ?_) (fun c2 => ?_)
  · exact absurd c2 (by decide)
  · refine lv_iload_n hx hb dX2_timesByHalves_5 rfl (lv_at hl 0 rfl) ?_
    refine lv_iconst (v := nI 2) hx hb dX2_timesByHalves_6 (by decide) ?_
    refine lv_icmp_lt (tgt := 15) hx hb dX2_timesByHalves_7 (by decide) (fun c7 => ?_) (fun c7 => ?_)
    · have c7 : x < 2 := (nI_ltI (a := x) (b := 2) (by first | omega | exact Nat.lt_of_le_of_lt Nat.and_le_right (by decide) | exact Nat.lt_trans (nm_lt _ _) (by decide) | exact Nat.lt_trans (np_lt _ _) (by decide)) (by first | omega | exact Nat.lt_of_le_of_lt Nat.and_le_right (by decide) | exact Nat.lt_trans (nm_lt _ _) (by decide) | exact Nat.lt_trans (np_lt _ _) (by decide))).mp c7
      refine lv_iload_n hx hb dX2_timesByHalves_15 rfl (lv_at hl 0 rfl) ?_
      refine lv_iload_n hx hb dX2_timesByHalves_16 rfl (lv_at hl 1 rfl) ?_
      refine lv_imul hx hb dX2_timesByHalves_17 ?_
      refine lv_topi (nm_r (pk_mul _ _) ?_)
      subst hQ
      exact m_iret C0 hS dX2_timesByHalves_18 (u := ()) hP (congrArg nI (by first | exact n_sm n_L4 (by omega) hyy | exact n_sm' n_L4 hxx (by omega)))
    · have c7 : ¬ (x < 2) := fun q => c7 ((nI_ltI (a := x) (b := 2) (by first | omega | exact Nat.lt_of_le_of_lt Nat.and_le_right (by decide) | exact Nat.lt_trans (nm_lt _ _) (by decide) | exact Nat.lt_trans (np_lt _ _) (by decide)) (by first | omega | exact Nat.lt_of_le_of_lt Nat.and_le_right (by decide) | exact Nat.lt_trans (nm_lt _ _) (by decide) | exact Nat.lt_trans (np_lt _ _) (by decide))).mpr q)
      refine lv_iload_n hx hb dX2_timesByHalves_10 rfl (lv_at hl 1 rfl) ?_
      refine lv_iconst (v := nI 2) hx hb dX2_timesByHalves_11 (by decide) ?_
      refine lv_icmp_ge (tgt := 19) hx hb dX2_timesByHalves_12 (by decide) (fun c12 => ?_) (fun c12 => ?_)
      · have c12 : 2 ≤ y := (nI_leI (a := 2) (b := y) (by first | omega | exact Nat.lt_of_le_of_lt Nat.and_le_right (by decide) | exact Nat.lt_trans (nm_lt _ _) (by decide) | exact Nat.lt_trans (np_lt _ _) (by decide)) (by first | omega | exact Nat.lt_of_le_of_lt Nat.and_le_right (by decide) | exact Nat.lt_trans (nm_lt _ _) (by decide) | exact Nat.lt_trans (np_lt _ _) (by decide))).mp c12
        refine lv_iconst (v := nI 1) hx hb dX2_timesByHalves_19 (by decide) ?_
        refine lv_iload_n hx hb dX2_timesByHalves_20 rfl (lv_at hl 2 rfl) ?_
        refine lv_ishl hx hb dX2_timesByHalves_21 ?_
        refine lv_topi (nm_r (show _ = nI 4 from by decide) ?_)
        refine lv_iconst (v := nI 1) hx hb dX2_timesByHalves_22 (by decide) ?_
        refine lv_isub hx hb dX2_timesByHalves_23 ?_
        refine lv_topi (nm_r (show _ = nI 3 from by decide) ?_)
        refine lv_istore_n (lv' := [(3, .int (nI 3)), (0, .int (nI x)), (1, .int (nI y)), (2, .int (nI 2))]) hx hb dX2_timesByHalves_24 rfl hl (by decide) rfl (fun ls hl => ?_)
        refine lv_iload_n hx hb dX2_timesByHalves_25 rfl (lv_at hl 1 rfl) ?_
        refine lv_iload_n hx hb dX2_timesByHalves_26 rfl (lv_at hl 3 rfl) ?_
        refine lv_ishr hx hb dX2_timesByHalves_27 ?_
        refine lv_topi (nm_r (m_shr _ _ (by omega) (by omega)) ?_)
        refine lv_istore (lv' := [(4, .int (nI (x >>> 2))), (3, .int (nI 3)), (0, .int (nI x)), (1, .int (nI y)), (2, .int (nI 2))]) hx hb dX2_timesByHalves_28 hl (by decide) rfl (fun ls hl => ?_)
        refine lv_iload_n hx hb dX2_timesByHalves_30 rfl (lv_at hl 2 rfl) ?_
        refine lv_iload_n hx hb dX2_timesByHalves_31 rfl (lv_at hl 1 rfl) ?_
        refine lv_iand hx hb dX2_timesByHalves_32 ?_
        refine lv_topi (nm_r (nx_and _ _) ?_)
        refine lv_istore (lv' := [(5, .int (nI (x &&& 3))), (4, .int (nI (x >>> 2))), (3, .int (nI 3)), (0, .int (nI x)), (1, .int (nI y)), (2, .int (nI 2))]) hx hb dX2_timesByHalves_33 hl (by decide) rfl (fun ls hl => ?_)
        refine lv_iload_n hx hb dX2_timesByHalves_35 rfl (lv_at hl 4 rfl) ?_
        refine lv_iload_n hx hb dX2_timesByHalves_36 rfl (lv_at hl 5 rfl) ?_
        refine lv_ishr hx hb dX2_timesByHalves_37 ?_
        refine lv_topi (nm_r (m_shr _ _ (by omega) (by omega)) ?_)
        refine lv_istore (lv' := [(6, .int (nI (y >>> 2))), (5, .int (nI (x &&& 3))), (4, .int (nI (x >>> 2))), (3, .int (nI 3)), (0, .int (nI x)), (1, .int (nI y)), (2, .int (nI 2))]) hx hb dX2_timesByHalves_38 hl (by decide) rfl (fun ls hl => ?_)
        refine lv_iload_n hx hb dX2_timesByHalves_40 rfl (lv_at hl 5 rfl) ?_
        refine lv_iload_n hx hb dX2_timesByHalves_41 rfl (lv_at hl 3 rfl) ?_
        refine lv_iand hx hb dX2_timesByHalves_42 ?_
        refine lv_topi (nm_r (nx_and _ _) ?_)
        refine lv_istore (lv' := [(7, .int (nI (y &&& 3))), (6, .int (nI (y >>> 2))), (5, .int (nI (x &&& 3))), (4, .int (nI (x >>> 2))), (3, .int (nI 3)), (0, .int (nI x)), (1, .int (nI y)), (2, .int (nI 2))]) hx hb dX2_timesByHalves_43 hl (by decide) rfl (fun ls hl => ?_)
        refine lv_iload hx hb dX2_timesByHalves_45 (lv_at hl 2 rfl) ?_
        refine lv_iload hx hb dX2_timesByHalves_47 (lv_at hl 0 rfl) ?_
        refine lv_iload_n hx hb dX2_timesByHalves_49 rfl (lv_at hl 7 rfl) ?_
        refine lv_iconst (v := nI 2) hx hb dX2_timesByHalves_50 (by decide) ?_
        refine lv_idiv hx hb dX2_timesByHalves_51 (by decide) ?_
        refine lv_topi (nm_r (show _ = nI 1 from by decide) ?_)
        refine m_callSi (As := [.int (nI (x &&& 3)), .int (nI (y &&& 3)), .int (nI 1)]) (rest := []) C0 hl hP hD hS (c_X2_tbh_1 l D cY (x &&& 3) (y &&& 3) (by first | decide | exact Nat.lt_of_le_of_lt Nat.and_le_right (by decide) | (rw [Nat.shiftRight_eq_div_pow]; omega) | exact Nat.xor_lt_two_pow (n := 2) (by rw [Nat.shiftRight_eq_div_pow]; omega) (Nat.lt_of_le_of_lt Nat.and_le_right (by decide)) | exact n_L2.2.2.2.1 _ _) (by first | decide | exact Nat.lt_of_le_of_lt Nat.and_le_right (by decide) | (rw [Nat.shiftRight_eq_div_pow]; omega) | exact Nat.xor_lt_two_pow (n := 2) (by rw [Nat.shiftRight_eq_div_pow]; omega) (Nat.lt_of_le_of_lt Nat.and_le_right (by decide)) | exact n_L2.2.2.2.1 _ _)) (va_cwS 3 hts gX2_timesByHalves_X2_timesByHalves rfl rfl rfl (by decide +kernel) ⟨Nat.le_of_ble_eq_true rfl, Nat.le_of_ble_eq_true rfl⟩) dX2_timesByHalves_52 [] rfl rfl rfl (Nat.le_of_ble_eq_true rfl) (Nat.zero_le _) (Nat.zero_le _) (fun _ => rfl) (fun r2 u H1 locs hw hP hD hS => ?_)
        try dsimp only at hw
        obtain rfl := hw
        have hP : va_P D vwCl [] H1 := hP
        have hD : va_D A [] := hD
        refine lv_istore (lv' := [(8, .int (nI (n_2 (x &&& 3) (y &&& 3)))), (7, .int (nI (y &&& 3))), (6, .int (nI (y >>> 2))), (5, .int (nI (x &&& 3))), (4, .int (nI (x >>> 2))), (3, .int (nI 3)), (0, .int (nI x)), (1, .int (nI y)), (2, .int (nI 2))]) hx hb dX2_timesByHalves_55 hl (by decide) rfl (fun ls hl => ?_)
        refine lv_iload hx hb dX2_timesByHalves_57 (lv_at hl 4 rfl) ?_
        refine lv_iload hx hb dX2_timesByHalves_59 (lv_at hl 2 rfl) ?_
        refine lv_iload_n hx hb dX2_timesByHalves_61 rfl (lv_at hl 8 rfl) ?_
        refine lv_iconst (v := nI 2) hx hb dX2_timesByHalves_62 (by decide) ?_
        refine lv_idiv hx hb dX2_timesByHalves_63 (by decide) ?_
        refine lv_topi (nm_r (show _ = nI 1 from by decide) ?_)
        refine m_callSi (As := [.int (nI (x >>> 2)), .int (nI (y >>> 2)), .int (nI 1)]) (rest := []) C0 hl hP hD hS (c_X2_tbh_1 l D cY (x >>> 2) (y >>> 2) (by first | decide | exact Nat.lt_of_le_of_lt Nat.and_le_right (by decide) | (rw [Nat.shiftRight_eq_div_pow]; omega) | exact Nat.xor_lt_two_pow (n := 2) (by rw [Nat.shiftRight_eq_div_pow]; omega) (Nat.lt_of_le_of_lt Nat.and_le_right (by decide)) | exact n_L2.2.2.2.1 _ _) (by first | decide | exact Nat.lt_of_le_of_lt Nat.and_le_right (by decide) | (rw [Nat.shiftRight_eq_div_pow]; omega) | exact Nat.xor_lt_two_pow (n := 2) (by rw [Nat.shiftRight_eq_div_pow]; omega) (Nat.lt_of_le_of_lt Nat.and_le_right (by decide)) | exact n_L2.2.2.2.1 _ _)) (va_cwS 3 hts gX2_timesByHalves_X2_timesByHalves rfl rfl rfl (by decide +kernel) ⟨Nat.le_of_ble_eq_true rfl, Nat.le_of_ble_eq_true rfl⟩) dX2_timesByHalves_64 [] rfl rfl rfl (Nat.le_of_ble_eq_true rfl) (Nat.zero_le _) (Nat.zero_le _) (fun _ => rfl) (fun r4 u H3 locs hw hP hD hS => ?_)
        try dsimp only at hw
        obtain rfl := hw
        have hP : va_P D vwCl [] H3 := hP
        have hD : va_D A [] := hD
        refine lv_istore (lv' := [(9, .int (nI (n_2 (x >>> 2) (y >>> 2)))), (8, .int (nI (n_2 (x &&& 3) (y &&& 3)))), (7, .int (nI (y &&& 3))), (6, .int (nI (y >>> 2))), (5, .int (nI (x &&& 3))), (4, .int (nI (x >>> 2))), (3, .int (nI 3)), (0, .int (nI x)), (1, .int (nI y)), (2, .int (nI 2))]) hx hb dX2_timesByHalves_67 hl (by decide) rfl (fun ls hl => ?_)
        refine lv_iload hx hb dX2_timesByHalves_69 (lv_at hl 5 rfl) ?_
        refine lv_iload hx hb dX2_timesByHalves_71 (lv_at hl 4 rfl) ?_
        refine lv_ixor hx hb dX2_timesByHalves_73 ?_
        refine lv_topi (nm_r (nx_xor _ _) ?_)
        refine lv_iload hx hb dX2_timesByHalves_74 (lv_at hl 3 rfl) ?_
        refine lv_iload hx hb dX2_timesByHalves_76 (lv_at hl 2 rfl) ?_
        refine lv_ixor hx hb dX2_timesByHalves_78 ?_
        refine lv_topi (nm_r (nx_xor _ _) ?_)
        refine lv_iload_n hx hb dX2_timesByHalves_79 rfl (lv_at hl 9 rfl) ?_
        refine lv_iconst (v := nI 2) hx hb dX2_timesByHalves_80 (by decide) ?_
        refine lv_idiv hx hb dX2_timesByHalves_81 (by decide) ?_
        refine lv_topi (nm_r (show _ = nI 1 from by decide) ?_)
        refine m_callSi (As := [.int (nI ((x >>> 2) ^^^ (x &&& 3))), .int (nI ((y >>> 2) ^^^ (y &&& 3))), .int (nI 1)]) (rest := []) C0 hl hP hD hS (c_X2_tbh_1 l D cY ((x >>> 2) ^^^ (x &&& 3)) ((y >>> 2) ^^^ (y &&& 3)) (by first | decide | exact Nat.lt_of_le_of_lt Nat.and_le_right (by decide) | (rw [Nat.shiftRight_eq_div_pow]; omega) | exact Nat.xor_lt_two_pow (n := 2) (by rw [Nat.shiftRight_eq_div_pow]; omega) (Nat.lt_of_le_of_lt Nat.and_le_right (by decide)) | exact n_L2.2.2.2.1 _ _) (by first | decide | exact Nat.lt_of_le_of_lt Nat.and_le_right (by decide) | (rw [Nat.shiftRight_eq_div_pow]; omega) | exact Nat.xor_lt_two_pow (n := 2) (by rw [Nat.shiftRight_eq_div_pow]; omega) (Nat.lt_of_le_of_lt Nat.and_le_right (by decide)) | exact n_L2.2.2.2.1 _ _)) (va_cwS 3 hts gX2_timesByHalves_X2_timesByHalves rfl rfl rfl (by decide +kernel) ⟨Nat.le_of_ble_eq_true rfl, Nat.le_of_ble_eq_true rfl⟩) dX2_timesByHalves_82 [] rfl rfl rfl (Nat.le_of_ble_eq_true rfl) (Nat.zero_le _) (Nat.zero_le _) (fun _ => rfl) (fun r6 u H5 locs hw hP hD hS => ?_)
        try dsimp only at hw
        obtain rfl := hw
        have hP : va_P D vwCl [] H5 := hP
        have hD : va_D A [] := hD
        refine lv_istore (lv' := [(10, .int (nI (n_2 ((x >>> 2) ^^^ (x &&& 3)) ((y >>> 2) ^^^ (y &&& 3))))), (9, .int (nI (n_2 (x >>> 2) (y >>> 2)))), (8, .int (nI (n_2 (x &&& 3) (y &&& 3)))), (7, .int (nI (y &&& 3))), (6, .int (nI (y >>> 2))), (5, .int (nI (x &&& 3))), (4, .int (nI (x >>> 2))), (3, .int (nI 3)), (0, .int (nI x)), (1, .int (nI y)), (2, .int (nI 2))]) hx hb dX2_timesByHalves_85 hl (by decide) rfl (fun ls hl => ?_)
        refine lv_iload hx hb dX2_timesByHalves_87 (lv_at hl 1 rfl) ?_
        refine lv_iconst (v := nI 1) hx hb dX2_timesByHalves_89 (by decide) ?_
        refine lv_iload_n hx hb dX2_timesByHalves_90 rfl (lv_at hl 10 rfl) ?_
        refine lv_iconst (v := nI 1) hx hb dX2_timesByHalves_91 (by decide) ?_
        refine lv_isub hx hb dX2_timesByHalves_92 ?_
        refine lv_topi (nm_r (show _ = nI 1 from by decide) ?_)
        refine lv_ishl hx hb dX2_timesByHalves_93 ?_
        refine lv_topi (nm_r (show _ = nI 2 from by decide) ?_)
        refine lv_iload_n hx hb dX2_timesByHalves_94 rfl (lv_at hl 10 rfl) ?_
        refine lv_iconst (v := nI 2) hx hb dX2_timesByHalves_95 (by decide) ?_
        refine lv_idiv hx hb dX2_timesByHalves_96 (by decide) ?_
        refine lv_topi (nm_r (show _ = nI 1 from by decide) ?_)
        refine m_callSi (As := [.int (nI (n_2 (x >>> 2) (y >>> 2))), .int (nI 2), .int (nI 1)]) (rest := []) C0 hl hP hD hS (c_X2_tbh_1 l D cY (n_2 (x >>> 2) (y >>> 2)) 2 (by first | decide | exact Nat.lt_of_le_of_lt Nat.and_le_right (by decide) | (rw [Nat.shiftRight_eq_div_pow]; omega) | exact Nat.xor_lt_two_pow (n := 2) (by rw [Nat.shiftRight_eq_div_pow]; omega) (Nat.lt_of_le_of_lt Nat.and_le_right (by decide)) | exact n_L2.2.2.2.1 _ _) (by first | decide | exact Nat.lt_of_le_of_lt Nat.and_le_right (by decide) | (rw [Nat.shiftRight_eq_div_pow]; omega) | exact Nat.xor_lt_two_pow (n := 2) (by rw [Nat.shiftRight_eq_div_pow]; omega) (Nat.lt_of_le_of_lt Nat.and_le_right (by decide)) | exact n_L2.2.2.2.1 _ _)) (va_cwS 3 hts gX2_timesByHalves_X2_timesByHalves rfl rfl rfl (by decide +kernel) ⟨Nat.le_of_ble_eq_true rfl, Nat.le_of_ble_eq_true rfl⟩) dX2_timesByHalves_97 [] rfl rfl rfl (Nat.le_of_ble_eq_true rfl) (Nat.zero_le _) (Nat.zero_le _) (fun _ => rfl) (fun r8 u H7 locs hw hP hD hS => ?_)
        try dsimp only at hw
        obtain rfl := hw
        have hP : va_P D vwCl [] H7 := hP
        have hD : va_D A [] := hD
        refine lv_istore (lv' := [(11, .int (nI (n_2 (n_2 (x >>> 2) (y >>> 2)) 2))), (10, .int (nI (n_2 ((x >>> 2) ^^^ (x &&& 3)) ((y >>> 2) ^^^ (y &&& 3))))), (9, .int (nI (n_2 (x >>> 2) (y >>> 2)))), (8, .int (nI (n_2 (x &&& 3) (y &&& 3)))), (7, .int (nI (y &&& 3))), (6, .int (nI (y >>> 2))), (5, .int (nI (x &&& 3))), (4, .int (nI (x >>> 2))), (3, .int (nI 3)), (0, .int (nI x)), (1, .int (nI y)), (2, .int (nI 2))]) hx hb dX2_timesByHalves_100 hl (by decide) rfl (fun ls hl => ?_)
        refine lv_iload hx hb dX2_timesByHalves_102 (lv_at hl 1 rfl) ?_
        refine lv_iload hx hb dX2_timesByHalves_104 (lv_at hl 3 rfl) ?_
        refine lv_ixor hx hb dX2_timesByHalves_106 ?_
        refine lv_topi (nm_r (nx_xor _ _) ?_)
        refine lv_iload_n hx hb dX2_timesByHalves_107 rfl (lv_at hl 11 rfl) ?_
        refine lv_ishl hx hb dX2_timesByHalves_108 ?_
        refine lv_topi (nm_r (m_shl _ _ (by omega)) ?_)
        refine lv_iload hx hb dX2_timesByHalves_109 (lv_at hl 0 rfl) ?_
        refine lv_ixor hx hb dX2_timesByHalves_111 ?_
        refine lv_topi (nm_r (nx_xor _ _) ?_)
        refine lv_iload hx hb dX2_timesByHalves_112 (lv_at hl 3 rfl) ?_
        refine lv_ixor hx hb dX2_timesByHalves_114 ?_
        refine lv_topi (nm_r (nx_xor _ _) ?_)
        subst hQ
        exact m_iret C0 hS dX2_timesByHalves_115 (u := ()) hP (congrArg nI (n_kar (k := 2) (c := 2) (m := 3) n_L2 (by decide) x y))
      · have c12 : ¬ (2 ≤ y) := fun q => c12 ((nI_leI (a := 2) (b := y) (by first | omega | exact Nat.lt_of_le_of_lt Nat.and_le_right (by decide) | exact Nat.lt_trans (nm_lt _ _) (by decide) | exact Nat.lt_trans (np_lt _ _) (by decide)) (by first | omega | exact Nat.lt_of_le_of_lt Nat.and_le_right (by decide) | exact Nat.lt_trans (nm_lt _ _) (by decide) | exact Nat.lt_trans (np_lt _ _) (by decide))).mpr q)
        refine lv_iload_n hx hb dX2_timesByHalves_15 rfl (lv_at hl 0 rfl) ?_
        refine lv_iload_n hx hb dX2_timesByHalves_16 rfl (lv_at hl 1 rfl) ?_
        refine lv_imul hx hb dX2_timesByHalves_17 ?_
        refine lv_topi (nm_r (pk_mul _ _) ?_)
        subst hQ
        exact m_iret C0 hS dX2_timesByHalves_18 (u := ()) hP (congrArg nI (by first | exact n_sm n_L4 (by omega) hyy | exact n_sm' n_L4 hxx (by omega)))
set_option maxHeartbeats 4000000 in
set_option maxRecDepth 100000 in
theorem c_X2_tbh_4 (l : Launch) (D : va_G) (cY : Nat → ClassId) (x y : Nat) (hxx : x < 256) (hyy : y < 256) : m_Mi l yX2_timesByHalves wsX2_timesByHalves 3 93 D cY [.int (nI x), .int (nI y), .int (nI 4)] [] (fun (res : Int32) (u : Unit) => res = nI (n_8 x y)) (fun (u : Unit) => []) := by
  refine m_enterI (cc := cX2_timesByHalves) (maxL := 12) (ret := (some .int)) (by decide +kernel) rfl (Nat.le_of_ble_eq_true rfl) ?_
  intro p e s m below meth c A ls C0 hP hD hl
  obtain ⟨hx, hb, hr, hml, hts, hown, hlocks, hK, hA⟩ := id C0
  generalize hQ : MQ below _ _ s 0 0 A = Q
  have hS : va_S A s.heap s.heap [] := va_S.rf
  have hl : lv_has ls 12 [(0, .int (nI x)), (1, .int (nI y)), (2, .int (nI 4))] := hl
  refine lv_iload_n hx hb dX2_timesByHalves_0 rfl (lv_at hl 2 rfl) ?_
  refine lv_iconst (v := nI 1) hx hb dX2_timesByHalves_1 (by decide) ?_
  refine lv_icmp_lt (tgt := 15) hx hb dX2_timesByHalves_2 (by decide) (fun c2 => ?_) (fun c2 => ?_)
  · exact absurd c2 (by decide)
  · refine lv_iload_n hx hb dX2_timesByHalves_5 rfl (lv_at hl 0 rfl) ?_
    refine lv_iconst (v := nI 2) hx hb dX2_timesByHalves_6 (by decide) ?_
    refine lv_icmp_lt (tgt := 15) hx hb dX2_timesByHalves_7 (by decide) (fun c7 => ?_) (fun c7 => ?_)
    · have c7 : x < 2 := (nI_ltI (a := x) (b := 2) (by first | omega | exact Nat.lt_of_le_of_lt Nat.and_le_right (by decide) | exact Nat.lt_trans (nm_lt _ _) (by decide) | exact Nat.lt_trans (np_lt _ _) (by decide)) (by first | omega | exact Nat.lt_of_le_of_lt Nat.and_le_right (by decide) | exact Nat.lt_trans (nm_lt _ _) (by decide) | exact Nat.lt_trans (np_lt _ _) (by decide))).mp c7
      refine lv_iload_n hx hb dX2_timesByHalves_15 rfl (lv_at hl 0 rfl) ?_
      refine lv_iload_n hx hb dX2_timesByHalves_16 rfl (lv_at hl 1 rfl) ?_
      refine lv_imul hx hb dX2_timesByHalves_17 ?_
      refine lv_topi (nm_r (pk_mul _ _) ?_)
      subst hQ
      exact m_iret C0 hS dX2_timesByHalves_18 (u := ()) hP (congrArg nI (by first | exact n_sm n_L8 (by omega) hyy | exact n_sm' n_L8 hxx (by omega)))
    · have c7 : ¬ (x < 2) := fun q => c7 ((nI_ltI (a := x) (b := 2) (by first | omega | exact Nat.lt_of_le_of_lt Nat.and_le_right (by decide) | exact Nat.lt_trans (nm_lt _ _) (by decide) | exact Nat.lt_trans (np_lt _ _) (by decide)) (by first | omega | exact Nat.lt_of_le_of_lt Nat.and_le_right (by decide) | exact Nat.lt_trans (nm_lt _ _) (by decide) | exact Nat.lt_trans (np_lt _ _) (by decide))).mpr q)
      refine lv_iload_n hx hb dX2_timesByHalves_10 rfl (lv_at hl 1 rfl) ?_
      refine lv_iconst (v := nI 2) hx hb dX2_timesByHalves_11 (by decide) ?_
      refine lv_icmp_ge (tgt := 19) hx hb dX2_timesByHalves_12 (by decide) (fun c12 => ?_) (fun c12 => ?_)
      · have c12 : 2 ≤ y := (nI_leI (a := 2) (b := y) (by first | omega | exact Nat.lt_of_le_of_lt Nat.and_le_right (by decide) | exact Nat.lt_trans (nm_lt _ _) (by decide) | exact Nat.lt_trans (np_lt _ _) (by decide)) (by first | omega | exact Nat.lt_of_le_of_lt Nat.and_le_right (by decide) | exact Nat.lt_trans (nm_lt _ _) (by decide) | exact Nat.lt_trans (np_lt _ _) (by decide))).mp c12
        refine lv_iconst (v := nI 1) hx hb dX2_timesByHalves_19 (by decide) ?_
        refine lv_iload_n hx hb dX2_timesByHalves_20 rfl (lv_at hl 2 rfl) ?_
        refine lv_ishl hx hb dX2_timesByHalves_21 ?_
        refine lv_topi (nm_r (show _ = nI 16 from by decide) ?_)
        refine lv_iconst (v := nI 1) hx hb dX2_timesByHalves_22 (by decide) ?_
        refine lv_isub hx hb dX2_timesByHalves_23 ?_
        refine lv_topi (nm_r (show _ = nI 15 from by decide) ?_)
        refine lv_istore_n (lv' := [(3, .int (nI 15)), (0, .int (nI x)), (1, .int (nI y)), (2, .int (nI 4))]) hx hb dX2_timesByHalves_24 rfl hl (by decide) rfl (fun ls hl => ?_)
        refine lv_iload_n hx hb dX2_timesByHalves_25 rfl (lv_at hl 1 rfl) ?_
        refine lv_iload_n hx hb dX2_timesByHalves_26 rfl (lv_at hl 3 rfl) ?_
        refine lv_ishr hx hb dX2_timesByHalves_27 ?_
        refine lv_topi (nm_r (m_shr _ _ (by omega) (by omega)) ?_)
        refine lv_istore (lv' := [(4, .int (nI (x >>> 4))), (3, .int (nI 15)), (0, .int (nI x)), (1, .int (nI y)), (2, .int (nI 4))]) hx hb dX2_timesByHalves_28 hl (by decide) rfl (fun ls hl => ?_)
        refine lv_iload_n hx hb dX2_timesByHalves_30 rfl (lv_at hl 2 rfl) ?_
        refine lv_iload_n hx hb dX2_timesByHalves_31 rfl (lv_at hl 1 rfl) ?_
        refine lv_iand hx hb dX2_timesByHalves_32 ?_
        refine lv_topi (nm_r (nx_and _ _) ?_)
        refine lv_istore (lv' := [(5, .int (nI (x &&& 15))), (4, .int (nI (x >>> 4))), (3, .int (nI 15)), (0, .int (nI x)), (1, .int (nI y)), (2, .int (nI 4))]) hx hb dX2_timesByHalves_33 hl (by decide) rfl (fun ls hl => ?_)
        refine lv_iload_n hx hb dX2_timesByHalves_35 rfl (lv_at hl 4 rfl) ?_
        refine lv_iload_n hx hb dX2_timesByHalves_36 rfl (lv_at hl 5 rfl) ?_
        refine lv_ishr hx hb dX2_timesByHalves_37 ?_
        refine lv_topi (nm_r (m_shr _ _ (by omega) (by omega)) ?_)
        refine lv_istore (lv' := [(6, .int (nI (y >>> 4))), (5, .int (nI (x &&& 15))), (4, .int (nI (x >>> 4))), (3, .int (nI 15)), (0, .int (nI x)), (1, .int (nI y)), (2, .int (nI 4))]) hx hb dX2_timesByHalves_38 hl (by decide) rfl (fun ls hl => ?_)
        refine lv_iload_n hx hb dX2_timesByHalves_40 rfl (lv_at hl 5 rfl) ?_
        refine lv_iload_n hx hb dX2_timesByHalves_41 rfl (lv_at hl 3 rfl) ?_
        refine lv_iand hx hb dX2_timesByHalves_42 ?_
        refine lv_topi (nm_r (nx_and _ _) ?_)
        refine lv_istore (lv' := [(7, .int (nI (y &&& 15))), (6, .int (nI (y >>> 4))), (5, .int (nI (x &&& 15))), (4, .int (nI (x >>> 4))), (3, .int (nI 15)), (0, .int (nI x)), (1, .int (nI y)), (2, .int (nI 4))]) hx hb dX2_timesByHalves_43 hl (by decide) rfl (fun ls hl => ?_)
        refine lv_iload hx hb dX2_timesByHalves_45 (lv_at hl 2 rfl) ?_
        refine lv_iload hx hb dX2_timesByHalves_47 (lv_at hl 0 rfl) ?_
        refine lv_iload_n hx hb dX2_timesByHalves_49 rfl (lv_at hl 7 rfl) ?_
        refine lv_iconst (v := nI 2) hx hb dX2_timesByHalves_50 (by decide) ?_
        refine lv_idiv hx hb dX2_timesByHalves_51 (by decide) ?_
        refine lv_topi (nm_r (show _ = nI 2 from by decide) ?_)
        refine m_callSi (As := [.int (nI (x &&& 15)), .int (nI (y &&& 15)), .int (nI 2)]) (rest := []) C0 hl hP hD hS (c_X2_tbh_2 l D cY (x &&& 15) (y &&& 15) (by first | decide | exact Nat.lt_of_le_of_lt Nat.and_le_right (by decide) | (rw [Nat.shiftRight_eq_div_pow]; omega) | exact Nat.xor_lt_two_pow (n := 4) (by rw [Nat.shiftRight_eq_div_pow]; omega) (Nat.lt_of_le_of_lt Nat.and_le_right (by decide)) | exact n_L4.2.2.2.1 _ _) (by first | decide | exact Nat.lt_of_le_of_lt Nat.and_le_right (by decide) | (rw [Nat.shiftRight_eq_div_pow]; omega) | exact Nat.xor_lt_two_pow (n := 4) (by rw [Nat.shiftRight_eq_div_pow]; omega) (Nat.lt_of_le_of_lt Nat.and_le_right (by decide)) | exact n_L4.2.2.2.1 _ _)) (va_cwS 3 hts gX2_timesByHalves_X2_timesByHalves rfl rfl rfl (by decide +kernel) ⟨Nat.le_of_ble_eq_true rfl, Nat.le_of_ble_eq_true rfl⟩) dX2_timesByHalves_52 [] rfl rfl rfl (Nat.le_of_ble_eq_true rfl) (Nat.zero_le _) (Nat.zero_le _) (fun _ => rfl) (fun r2 u H1 locs hw hP hD hS => ?_)
        try dsimp only at hw
        obtain rfl := hw
        have hP : va_P D vwCl [] H1 := hP
        have hD : va_D A [] := hD
        refine lv_istore (lv' := [(8, .int (nI (n_4 (x &&& 15) (y &&& 15)))), (7, .int (nI (y &&& 15))), (6, .int (nI (y >>> 4))), (5, .int (nI (x &&& 15))), (4, .int (nI (x >>> 4))), (3, .int (nI 15)), (0, .int (nI x)), (1, .int (nI y)), (2, .int (nI 4))]) hx hb dX2_timesByHalves_55 hl (by decide) rfl (fun ls hl => ?_)
        refine lv_iload hx hb dX2_timesByHalves_57 (lv_at hl 4 rfl) ?_
        refine lv_iload hx hb dX2_timesByHalves_59 (lv_at hl 2 rfl) ?_
        refine lv_iload_n hx hb dX2_timesByHalves_61 rfl (lv_at hl 8 rfl) ?_
        refine lv_iconst (v := nI 2) hx hb dX2_timesByHalves_62 (by decide) ?_
        refine lv_idiv hx hb dX2_timesByHalves_63 (by decide) ?_
        refine lv_topi (nm_r (show _ = nI 2 from by decide) ?_)
        refine m_callSi (As := [.int (nI (x >>> 4)), .int (nI (y >>> 4)), .int (nI 2)]) (rest := []) C0 hl hP hD hS (c_X2_tbh_2 l D cY (x >>> 4) (y >>> 4) (by first | decide | exact Nat.lt_of_le_of_lt Nat.and_le_right (by decide) | (rw [Nat.shiftRight_eq_div_pow]; omega) | exact Nat.xor_lt_two_pow (n := 4) (by rw [Nat.shiftRight_eq_div_pow]; omega) (Nat.lt_of_le_of_lt Nat.and_le_right (by decide)) | exact n_L4.2.2.2.1 _ _) (by first | decide | exact Nat.lt_of_le_of_lt Nat.and_le_right (by decide) | (rw [Nat.shiftRight_eq_div_pow]; omega) | exact Nat.xor_lt_two_pow (n := 4) (by rw [Nat.shiftRight_eq_div_pow]; omega) (Nat.lt_of_le_of_lt Nat.and_le_right (by decide)) | exact n_L4.2.2.2.1 _ _)) (va_cwS 3 hts gX2_timesByHalves_X2_timesByHalves rfl rfl rfl (by decide +kernel) ⟨Nat.le_of_ble_eq_true rfl, Nat.le_of_ble_eq_true rfl⟩) dX2_timesByHalves_64 [] rfl rfl rfl (Nat.le_of_ble_eq_true rfl) (Nat.zero_le _) (Nat.zero_le _) (fun _ => rfl) (fun r4 u H3 locs hw hP hD hS => ?_)
        try dsimp only at hw
        obtain rfl := hw
        have hP : va_P D vwCl [] H3 := hP
        have hD : va_D A [] := hD
        refine lv_istore (lv' := [(9, .int (nI (n_4 (x >>> 4) (y >>> 4)))), (8, .int (nI (n_4 (x &&& 15) (y &&& 15)))), (7, .int (nI (y &&& 15))), (6, .int (nI (y >>> 4))), (5, .int (nI (x &&& 15))), (4, .int (nI (x >>> 4))), (3, .int (nI 15)), (0, .int (nI x)), (1, .int (nI y)), (2, .int (nI 4))]) hx hb dX2_timesByHalves_67 hl (by decide) rfl (fun ls hl => ?_)
        refine lv_iload hx hb dX2_timesByHalves_69 (lv_at hl 5 rfl) ?_
        refine lv_iload hx hb dX2_timesByHalves_71 (lv_at hl 4 rfl) ?_
        refine lv_ixor hx hb dX2_timesByHalves_73 ?_
        refine lv_topi (nm_r (nx_xor _ _) ?_)
        refine lv_iload hx hb dX2_timesByHalves_74 (lv_at hl 3 rfl) ?_
        refine lv_iload hx hb dX2_timesByHalves_76 (lv_at hl 2 rfl) ?_
        refine lv_ixor hx hb dX2_timesByHalves_78 ?_
        refine lv_topi (nm_r (nx_xor _ _) ?_)
        refine lv_iload_n hx hb dX2_timesByHalves_79 rfl (lv_at hl 9 rfl) ?_
        refine lv_iconst (v := nI 2) hx hb dX2_timesByHalves_80 (by decide) ?_
        refine lv_idiv hx hb dX2_timesByHalves_81 (by decide) ?_
        refine lv_topi (nm_r (show _ = nI 2 from by decide) ?_)
        refine m_callSi (As := [.int (nI ((x >>> 4) ^^^ (x &&& 15))), .int (nI ((y >>> 4) ^^^ (y &&& 15))), .int (nI 2)]) (rest := []) C0 hl hP hD hS (c_X2_tbh_2 l D cY ((x >>> 4) ^^^ (x &&& 15)) ((y >>> 4) ^^^ (y &&& 15)) (by first | decide | exact Nat.lt_of_le_of_lt Nat.and_le_right (by decide) | (rw [Nat.shiftRight_eq_div_pow]; omega) | exact Nat.xor_lt_two_pow (n := 4) (by rw [Nat.shiftRight_eq_div_pow]; omega) (Nat.lt_of_le_of_lt Nat.and_le_right (by decide)) | exact n_L4.2.2.2.1 _ _) (by first | decide | exact Nat.lt_of_le_of_lt Nat.and_le_right (by decide) | (rw [Nat.shiftRight_eq_div_pow]; omega) | exact Nat.xor_lt_two_pow (n := 4) (by rw [Nat.shiftRight_eq_div_pow]; omega) (Nat.lt_of_le_of_lt Nat.and_le_right (by decide)) | exact n_L4.2.2.2.1 _ _)) (va_cwS 3 hts gX2_timesByHalves_X2_timesByHalves rfl rfl rfl (by decide +kernel) ⟨Nat.le_of_ble_eq_true rfl, Nat.le_of_ble_eq_true rfl⟩) dX2_timesByHalves_82 [] rfl rfl rfl (Nat.le_of_ble_eq_true rfl) (Nat.zero_le _) (Nat.zero_le _) (fun _ => rfl) (fun r6 u H5 locs hw hP hD hS => ?_)
        try dsimp only at hw
        obtain rfl := hw
        have hP : va_P D vwCl [] H5 := hP
        have hD : va_D A [] := hD
        refine lv_istore (lv' := [(10, .int (nI (n_4 ((x >>> 4) ^^^ (x &&& 15)) ((y >>> 4) ^^^ (y &&& 15))))), (9, .int (nI (n_4 (x >>> 4) (y >>> 4)))), (8, .int (nI (n_4 (x &&& 15) (y &&& 15)))), (7, .int (nI (y &&& 15))), (6, .int (nI (y >>> 4))), (5, .int (nI (x &&& 15))), (4, .int (nI (x >>> 4))), (3, .int (nI 15)), (0, .int (nI x)), (1, .int (nI y)), (2, .int (nI 4))]) hx hb dX2_timesByHalves_85 hl (by decide) rfl (fun ls hl => ?_)
        refine lv_iload hx hb dX2_timesByHalves_87 (lv_at hl 1 rfl) ?_
        refine lv_iconst (v := nI 1) hx hb dX2_timesByHalves_89 (by decide) ?_
        refine lv_iload_n hx hb dX2_timesByHalves_90 rfl (lv_at hl 10 rfl) ?_
        refine lv_iconst (v := nI 1) hx hb dX2_timesByHalves_91 (by decide) ?_
        refine lv_isub hx hb dX2_timesByHalves_92 ?_
        refine lv_topi (nm_r (show _ = nI 3 from by decide) ?_)
        refine lv_ishl hx hb dX2_timesByHalves_93 ?_
        refine lv_topi (nm_r (show _ = nI 8 from by decide) ?_)
        refine lv_iload_n hx hb dX2_timesByHalves_94 rfl (lv_at hl 10 rfl) ?_
        refine lv_iconst (v := nI 2) hx hb dX2_timesByHalves_95 (by decide) ?_
        refine lv_idiv hx hb dX2_timesByHalves_96 (by decide) ?_
        refine lv_topi (nm_r (show _ = nI 2 from by decide) ?_)
        refine m_callSi (As := [.int (nI (n_4 (x >>> 4) (y >>> 4))), .int (nI 8), .int (nI 2)]) (rest := []) C0 hl hP hD hS (c_X2_tbh_2 l D cY (n_4 (x >>> 4) (y >>> 4)) 8 (by first | decide | exact Nat.lt_of_le_of_lt Nat.and_le_right (by decide) | (rw [Nat.shiftRight_eq_div_pow]; omega) | exact Nat.xor_lt_two_pow (n := 4) (by rw [Nat.shiftRight_eq_div_pow]; omega) (Nat.lt_of_le_of_lt Nat.and_le_right (by decide)) | exact n_L4.2.2.2.1 _ _) (by first | decide | exact Nat.lt_of_le_of_lt Nat.and_le_right (by decide) | (rw [Nat.shiftRight_eq_div_pow]; omega) | exact Nat.xor_lt_two_pow (n := 4) (by rw [Nat.shiftRight_eq_div_pow]; omega) (Nat.lt_of_le_of_lt Nat.and_le_right (by decide)) | exact n_L4.2.2.2.1 _ _)) (va_cwS 3 hts gX2_timesByHalves_X2_timesByHalves rfl rfl rfl (by decide +kernel) ⟨Nat.le_of_ble_eq_true rfl, Nat.le_of_ble_eq_true rfl⟩) dX2_timesByHalves_97 [] rfl rfl rfl (Nat.le_of_ble_eq_true rfl) (Nat.zero_le _) (Nat.zero_le _) (fun _ => rfl) (fun r8 u H7 locs hw hP hD hS => ?_)
        try dsimp only at hw
        obtain rfl := hw
        have hP : va_P D vwCl [] H7 := hP
        have hD : va_D A [] := hD
        refine lv_istore (lv' := [(11, .int (nI (n_4 (n_4 (x >>> 4) (y >>> 4)) 8))), (10, .int (nI (n_4 ((x >>> 4) ^^^ (x &&& 15)) ((y >>> 4) ^^^ (y &&& 15))))), (9, .int (nI (n_4 (x >>> 4) (y >>> 4)))), (8, .int (nI (n_4 (x &&& 15) (y &&& 15)))), (7, .int (nI (y &&& 15))), (6, .int (nI (y >>> 4))), (5, .int (nI (x &&& 15))), (4, .int (nI (x >>> 4))), (3, .int (nI 15)), (0, .int (nI x)), (1, .int (nI y)), (2, .int (nI 4))]) hx hb dX2_timesByHalves_100 hl (by decide) rfl (fun ls hl => ?_)
        refine lv_iload hx hb dX2_timesByHalves_102 (lv_at hl 1 rfl) ?_
        refine lv_iload hx hb dX2_timesByHalves_104 (lv_at hl 3 rfl) ?_
        refine lv_ixor hx hb dX2_timesByHalves_106 ?_
        refine lv_topi (nm_r (nx_xor _ _) ?_)
        refine lv_iload_n hx hb dX2_timesByHalves_107 rfl (lv_at hl 11 rfl) ?_
        refine lv_ishl hx hb dX2_timesByHalves_108 ?_
        refine lv_topi (nm_r (m_shl _ _ (by omega)) ?_)
        refine lv_iload hx hb dX2_timesByHalves_109 (lv_at hl 0 rfl) ?_
        refine lv_ixor hx hb dX2_timesByHalves_111 ?_
        refine lv_topi (nm_r (nx_xor _ _) ?_)
        refine lv_iload hx hb dX2_timesByHalves_112 (lv_at hl 3 rfl) ?_
        refine lv_ixor hx hb dX2_timesByHalves_114 ?_
        refine lv_topi (nm_r (nx_xor _ _) ?_)
        subst hQ
        exact m_iret C0 hS dX2_timesByHalves_115 (u := ()) hP (congrArg nI (n_kar (k := 4) (c := 8) (m := 15) n_L4 (by decide) x y))
      · have c12 : ¬ (2 ≤ y) := fun q => c12 ((nI_leI (a := 2) (b := y) (by first | omega | exact Nat.lt_of_le_of_lt Nat.and_le_right (by decide) | exact Nat.lt_trans (nm_lt _ _) (by decide) | exact Nat.lt_trans (np_lt _ _) (by decide)) (by first | omega | exact Nat.lt_of_le_of_lt Nat.and_le_right (by decide) | exact Nat.lt_trans (nm_lt _ _) (by decide) | exact Nat.lt_trans (np_lt _ _) (by decide))).mpr q)
        refine lv_iload_n hx hb dX2_timesByHalves_15 rfl (lv_at hl 0 rfl) ?_
        refine lv_iload_n hx hb dX2_timesByHalves_16 rfl (lv_at hl 1 rfl) ?_
        refine lv_imul hx hb dX2_timesByHalves_17 ?_
        refine lv_topi (nm_r (pk_mul _ _) ?_)
        subst hQ
        exact m_iret C0 hS dX2_timesByHalves_18 (u := ()) hP (congrArg nI (by first | exact n_sm n_L8 (by omega) hyy | exact n_sm' n_L8 hxx (by omega)))
set_option maxHeartbeats 4000000 in
set_option maxRecDepth 100000 in
theorem c_X2_tbh_8 (l : Launch) (D : va_G) (cY : Nat → ClassId) (x y : Nat) (hxx : x < 65536) (hyy : y < 65536) : m_Mi l yX2_timesByHalves wsX2_timesByHalves 4 124 D cY [.int (nI x), .int (nI y), .int (nI 8)] [] (fun (res : Int32) (u : Unit) => res = nI (nm x y)) (fun (u : Unit) => []) := by
  refine m_enterI (cc := cX2_timesByHalves) (maxL := 12) (ret := (some .int)) (by decide +kernel) rfl (Nat.le_of_ble_eq_true rfl) ?_
  intro p e s m below meth c A ls C0 hP hD hl
  obtain ⟨hx, hb, hr, hml, hts, hown, hlocks, hK, hA⟩ := id C0
  generalize hQ : MQ below _ _ s 0 0 A = Q
  have hS : va_S A s.heap s.heap [] := va_S.rf
  have hl : lv_has ls 12 [(0, .int (nI x)), (1, .int (nI y)), (2, .int (nI 8))] := hl
  refine lv_iload_n hx hb dX2_timesByHalves_0 rfl (lv_at hl 2 rfl) ?_
  refine lv_iconst (v := nI 1) hx hb dX2_timesByHalves_1 (by decide) ?_
  refine lv_icmp_lt (tgt := 15) hx hb dX2_timesByHalves_2 (by decide) (fun c2 => ?_) (fun c2 => ?_)
  · exact absurd c2 (by decide)
  · refine lv_iload_n hx hb dX2_timesByHalves_5 rfl (lv_at hl 0 rfl) ?_
    refine lv_iconst (v := nI 2) hx hb dX2_timesByHalves_6 (by decide) ?_
    refine lv_icmp_lt (tgt := 15) hx hb dX2_timesByHalves_7 (by decide) (fun c7 => ?_) (fun c7 => ?_)
    · have c7 : x < 2 := (nI_ltI (a := x) (b := 2) (by first | omega | exact Nat.lt_of_le_of_lt Nat.and_le_right (by decide) | exact Nat.lt_trans (nm_lt _ _) (by decide) | exact Nat.lt_trans (np_lt _ _) (by decide)) (by first | omega | exact Nat.lt_of_le_of_lt Nat.and_le_right (by decide) | exact Nat.lt_trans (nm_lt _ _) (by decide) | exact Nat.lt_trans (np_lt _ _) (by decide))).mp c7
      refine lv_iload_n hx hb dX2_timesByHalves_15 rfl (lv_at hl 0 rfl) ?_
      refine lv_iload_n hx hb dX2_timesByHalves_16 rfl (lv_at hl 1 rfl) ?_
      refine lv_imul hx hb dX2_timesByHalves_17 ?_
      refine lv_topi (nm_r (pk_mul _ _) ?_)
      subst hQ
      exact m_iret C0 hS dX2_timesByHalves_18 (u := ()) hP (congrArg nI (by first | exact n_sm n_L16 (by omega) hyy | exact n_sm' n_L16 hxx (by omega)))
    · have c7 : ¬ (x < 2) := fun q => c7 ((nI_ltI (a := x) (b := 2) (by first | omega | exact Nat.lt_of_le_of_lt Nat.and_le_right (by decide) | exact Nat.lt_trans (nm_lt _ _) (by decide) | exact Nat.lt_trans (np_lt _ _) (by decide)) (by first | omega | exact Nat.lt_of_le_of_lt Nat.and_le_right (by decide) | exact Nat.lt_trans (nm_lt _ _) (by decide) | exact Nat.lt_trans (np_lt _ _) (by decide))).mpr q)
      refine lv_iload_n hx hb dX2_timesByHalves_10 rfl (lv_at hl 1 rfl) ?_
      refine lv_iconst (v := nI 2) hx hb dX2_timesByHalves_11 (by decide) ?_
      refine lv_icmp_ge (tgt := 19) hx hb dX2_timesByHalves_12 (by decide) (fun c12 => ?_) (fun c12 => ?_)
      · have c12 : 2 ≤ y := (nI_leI (a := 2) (b := y) (by first | omega | exact Nat.lt_of_le_of_lt Nat.and_le_right (by decide) | exact Nat.lt_trans (nm_lt _ _) (by decide) | exact Nat.lt_trans (np_lt _ _) (by decide)) (by first | omega | exact Nat.lt_of_le_of_lt Nat.and_le_right (by decide) | exact Nat.lt_trans (nm_lt _ _) (by decide) | exact Nat.lt_trans (np_lt _ _) (by decide))).mp c12
        refine lv_iconst (v := nI 1) hx hb dX2_timesByHalves_19 (by decide) ?_
        refine lv_iload_n hx hb dX2_timesByHalves_20 rfl (lv_at hl 2 rfl) ?_
        refine lv_ishl hx hb dX2_timesByHalves_21 ?_
        refine lv_topi (nm_r (show _ = nI 256 from by decide) ?_)
        refine lv_iconst (v := nI 1) hx hb dX2_timesByHalves_22 (by decide) ?_
        refine lv_isub hx hb dX2_timesByHalves_23 ?_
        refine lv_topi (nm_r (show _ = nI 255 from by decide) ?_)
        refine lv_istore_n (lv' := [(3, .int (nI 255)), (0, .int (nI x)), (1, .int (nI y)), (2, .int (nI 8))]) hx hb dX2_timesByHalves_24 rfl hl (by decide) rfl (fun ls hl => ?_)
        refine lv_iload_n hx hb dX2_timesByHalves_25 rfl (lv_at hl 1 rfl) ?_
        refine lv_iload_n hx hb dX2_timesByHalves_26 rfl (lv_at hl 3 rfl) ?_
        refine lv_ishr hx hb dX2_timesByHalves_27 ?_
        refine lv_topi (nm_r (m_shr _ _ (by omega) (by omega)) ?_)
        refine lv_istore (lv' := [(4, .int (nI (x >>> 8))), (3, .int (nI 255)), (0, .int (nI x)), (1, .int (nI y)), (2, .int (nI 8))]) hx hb dX2_timesByHalves_28 hl (by decide) rfl (fun ls hl => ?_)
        refine lv_iload_n hx hb dX2_timesByHalves_30 rfl (lv_at hl 2 rfl) ?_
        refine lv_iload_n hx hb dX2_timesByHalves_31 rfl (lv_at hl 1 rfl) ?_
        refine lv_iand hx hb dX2_timesByHalves_32 ?_
        refine lv_topi (nm_r (nx_and _ _) ?_)
        refine lv_istore (lv' := [(5, .int (nI (x &&& 255))), (4, .int (nI (x >>> 8))), (3, .int (nI 255)), (0, .int (nI x)), (1, .int (nI y)), (2, .int (nI 8))]) hx hb dX2_timesByHalves_33 hl (by decide) rfl (fun ls hl => ?_)
        refine lv_iload_n hx hb dX2_timesByHalves_35 rfl (lv_at hl 4 rfl) ?_
        refine lv_iload_n hx hb dX2_timesByHalves_36 rfl (lv_at hl 5 rfl) ?_
        refine lv_ishr hx hb dX2_timesByHalves_37 ?_
        refine lv_topi (nm_r (m_shr _ _ (by omega) (by omega)) ?_)
        refine lv_istore (lv' := [(6, .int (nI (y >>> 8))), (5, .int (nI (x &&& 255))), (4, .int (nI (x >>> 8))), (3, .int (nI 255)), (0, .int (nI x)), (1, .int (nI y)), (2, .int (nI 8))]) hx hb dX2_timesByHalves_38 hl (by decide) rfl (fun ls hl => ?_)
        refine lv_iload_n hx hb dX2_timesByHalves_40 rfl (lv_at hl 5 rfl) ?_
        refine lv_iload_n hx hb dX2_timesByHalves_41 rfl (lv_at hl 3 rfl) ?_
        refine lv_iand hx hb dX2_timesByHalves_42 ?_
        refine lv_topi (nm_r (nx_and _ _) ?_)
        refine lv_istore (lv' := [(7, .int (nI (y &&& 255))), (6, .int (nI (y >>> 8))), (5, .int (nI (x &&& 255))), (4, .int (nI (x >>> 8))), (3, .int (nI 255)), (0, .int (nI x)), (1, .int (nI y)), (2, .int (nI 8))]) hx hb dX2_timesByHalves_43 hl (by decide) rfl (fun ls hl => ?_)
        refine lv_iload hx hb dX2_timesByHalves_45 (lv_at hl 2 rfl) ?_
        refine lv_iload hx hb dX2_timesByHalves_47 (lv_at hl 0 rfl) ?_
        refine lv_iload_n hx hb dX2_timesByHalves_49 rfl (lv_at hl 7 rfl) ?_
        refine lv_iconst (v := nI 2) hx hb dX2_timesByHalves_50 (by decide) ?_
        refine lv_idiv hx hb dX2_timesByHalves_51 (by decide) ?_
        refine lv_topi (nm_r (show _ = nI 4 from by decide) ?_)
        refine m_callSi (As := [.int (nI (x &&& 255)), .int (nI (y &&& 255)), .int (nI 4)]) (rest := []) C0 hl hP hD hS (c_X2_tbh_4 l D cY (x &&& 255) (y &&& 255) (by first | decide | exact Nat.lt_of_le_of_lt Nat.and_le_right (by decide) | (rw [Nat.shiftRight_eq_div_pow]; omega) | exact Nat.xor_lt_two_pow (n := 8) (by rw [Nat.shiftRight_eq_div_pow]; omega) (Nat.lt_of_le_of_lt Nat.and_le_right (by decide)) | exact n_L8.2.2.2.1 _ _) (by first | decide | exact Nat.lt_of_le_of_lt Nat.and_le_right (by decide) | (rw [Nat.shiftRight_eq_div_pow]; omega) | exact Nat.xor_lt_two_pow (n := 8) (by rw [Nat.shiftRight_eq_div_pow]; omega) (Nat.lt_of_le_of_lt Nat.and_le_right (by decide)) | exact n_L8.2.2.2.1 _ _)) (va_cwS 3 hts gX2_timesByHalves_X2_timesByHalves rfl rfl rfl (by decide +kernel) ⟨Nat.le_of_ble_eq_true rfl, Nat.le_of_ble_eq_true rfl⟩) dX2_timesByHalves_52 [] rfl rfl rfl (Nat.le_of_ble_eq_true rfl) (Nat.zero_le _) (Nat.zero_le _) (fun _ => rfl) (fun r2 u H1 locs hw hP hD hS => ?_)
        try dsimp only at hw
        obtain rfl := hw
        have hP : va_P D vwCl [] H1 := hP
        have hD : va_D A [] := hD
        refine lv_istore (lv' := [(8, .int (nI (n_8 (x &&& 255) (y &&& 255)))), (7, .int (nI (y &&& 255))), (6, .int (nI (y >>> 8))), (5, .int (nI (x &&& 255))), (4, .int (nI (x >>> 8))), (3, .int (nI 255)), (0, .int (nI x)), (1, .int (nI y)), (2, .int (nI 8))]) hx hb dX2_timesByHalves_55 hl (by decide) rfl (fun ls hl => ?_)
        refine lv_iload hx hb dX2_timesByHalves_57 (lv_at hl 4 rfl) ?_
        refine lv_iload hx hb dX2_timesByHalves_59 (lv_at hl 2 rfl) ?_
        refine lv_iload_n hx hb dX2_timesByHalves_61 rfl (lv_at hl 8 rfl) ?_
        refine lv_iconst (v := nI 2) hx hb dX2_timesByHalves_62 (by decide) ?_
        refine lv_idiv hx hb dX2_timesByHalves_63 (by decide) ?_
        refine lv_topi (nm_r (show _ = nI 4 from by decide) ?_)
        refine m_callSi (As := [.int (nI (x >>> 8)), .int (nI (y >>> 8)), .int (nI 4)]) (rest := []) C0 hl hP hD hS (c_X2_tbh_4 l D cY (x >>> 8) (y >>> 8) (by first | decide | exact Nat.lt_of_le_of_lt Nat.and_le_right (by decide) | (rw [Nat.shiftRight_eq_div_pow]; omega) | exact Nat.xor_lt_two_pow (n := 8) (by rw [Nat.shiftRight_eq_div_pow]; omega) (Nat.lt_of_le_of_lt Nat.and_le_right (by decide)) | exact n_L8.2.2.2.1 _ _) (by first | decide | exact Nat.lt_of_le_of_lt Nat.and_le_right (by decide) | (rw [Nat.shiftRight_eq_div_pow]; omega) | exact Nat.xor_lt_two_pow (n := 8) (by rw [Nat.shiftRight_eq_div_pow]; omega) (Nat.lt_of_le_of_lt Nat.and_le_right (by decide)) | exact n_L8.2.2.2.1 _ _)) (va_cwS 3 hts gX2_timesByHalves_X2_timesByHalves rfl rfl rfl (by decide +kernel) ⟨Nat.le_of_ble_eq_true rfl, Nat.le_of_ble_eq_true rfl⟩) dX2_timesByHalves_64 [] rfl rfl rfl (Nat.le_of_ble_eq_true rfl) (Nat.zero_le _) (Nat.zero_le _) (fun _ => rfl) (fun r4 u H3 locs hw hP hD hS => ?_)
        try dsimp only at hw
        obtain rfl := hw
        have hP : va_P D vwCl [] H3 := hP
        have hD : va_D A [] := hD
        refine lv_istore (lv' := [(9, .int (nI (n_8 (x >>> 8) (y >>> 8)))), (8, .int (nI (n_8 (x &&& 255) (y &&& 255)))), (7, .int (nI (y &&& 255))), (6, .int (nI (y >>> 8))), (5, .int (nI (x &&& 255))), (4, .int (nI (x >>> 8))), (3, .int (nI 255)), (0, .int (nI x)), (1, .int (nI y)), (2, .int (nI 8))]) hx hb dX2_timesByHalves_67 hl (by decide) rfl (fun ls hl => ?_)
        refine lv_iload hx hb dX2_timesByHalves_69 (lv_at hl 5 rfl) ?_
        refine lv_iload hx hb dX2_timesByHalves_71 (lv_at hl 4 rfl) ?_
        refine lv_ixor hx hb dX2_timesByHalves_73 ?_
        refine lv_topi (nm_r (nx_xor _ _) ?_)
        refine lv_iload hx hb dX2_timesByHalves_74 (lv_at hl 3 rfl) ?_
        refine lv_iload hx hb dX2_timesByHalves_76 (lv_at hl 2 rfl) ?_
        refine lv_ixor hx hb dX2_timesByHalves_78 ?_
        refine lv_topi (nm_r (nx_xor _ _) ?_)
        refine lv_iload_n hx hb dX2_timesByHalves_79 rfl (lv_at hl 9 rfl) ?_
        refine lv_iconst (v := nI 2) hx hb dX2_timesByHalves_80 (by decide) ?_
        refine lv_idiv hx hb dX2_timesByHalves_81 (by decide) ?_
        refine lv_topi (nm_r (show _ = nI 4 from by decide) ?_)
        refine m_callSi (As := [.int (nI ((x >>> 8) ^^^ (x &&& 255))), .int (nI ((y >>> 8) ^^^ (y &&& 255))), .int (nI 4)]) (rest := []) C0 hl hP hD hS (c_X2_tbh_4 l D cY ((x >>> 8) ^^^ (x &&& 255)) ((y >>> 8) ^^^ (y &&& 255)) (by first | decide | exact Nat.lt_of_le_of_lt Nat.and_le_right (by decide) | (rw [Nat.shiftRight_eq_div_pow]; omega) | exact Nat.xor_lt_two_pow (n := 8) (by rw [Nat.shiftRight_eq_div_pow]; omega) (Nat.lt_of_le_of_lt Nat.and_le_right (by decide)) | exact n_L8.2.2.2.1 _ _) (by first | decide | exact Nat.lt_of_le_of_lt Nat.and_le_right (by decide) | (rw [Nat.shiftRight_eq_div_pow]; omega) | exact Nat.xor_lt_two_pow (n := 8) (by rw [Nat.shiftRight_eq_div_pow]; omega) (Nat.lt_of_le_of_lt Nat.and_le_right (by decide)) | exact n_L8.2.2.2.1 _ _)) (va_cwS 3 hts gX2_timesByHalves_X2_timesByHalves rfl rfl rfl (by decide +kernel) ⟨Nat.le_of_ble_eq_true rfl, Nat.le_of_ble_eq_true rfl⟩) dX2_timesByHalves_82 [] rfl rfl rfl (Nat.le_of_ble_eq_true rfl) (Nat.zero_le _) (Nat.zero_le _) (fun _ => rfl) (fun r6 u H5 locs hw hP hD hS => ?_)
        try dsimp only at hw
        obtain rfl := hw
        have hP : va_P D vwCl [] H5 := hP
        have hD : va_D A [] := hD
        refine lv_istore (lv' := [(10, .int (nI (n_8 ((x >>> 8) ^^^ (x &&& 255)) ((y >>> 8) ^^^ (y &&& 255))))), (9, .int (nI (n_8 (x >>> 8) (y >>> 8)))), (8, .int (nI (n_8 (x &&& 255) (y &&& 255)))), (7, .int (nI (y &&& 255))), (6, .int (nI (y >>> 8))), (5, .int (nI (x &&& 255))), (4, .int (nI (x >>> 8))), (3, .int (nI 255)), (0, .int (nI x)), (1, .int (nI y)), (2, .int (nI 8))]) hx hb dX2_timesByHalves_85 hl (by decide) rfl (fun ls hl => ?_)
        refine lv_iload hx hb dX2_timesByHalves_87 (lv_at hl 1 rfl) ?_
        refine lv_iconst (v := nI 1) hx hb dX2_timesByHalves_89 (by decide) ?_
        refine lv_iload_n hx hb dX2_timesByHalves_90 rfl (lv_at hl 10 rfl) ?_
        refine lv_iconst (v := nI 1) hx hb dX2_timesByHalves_91 (by decide) ?_
        refine lv_isub hx hb dX2_timesByHalves_92 ?_
        refine lv_topi (nm_r (show _ = nI 7 from by decide) ?_)
        refine lv_ishl hx hb dX2_timesByHalves_93 ?_
        refine lv_topi (nm_r (show _ = nI 128 from by decide) ?_)
        refine lv_iload_n hx hb dX2_timesByHalves_94 rfl (lv_at hl 10 rfl) ?_
        refine lv_iconst (v := nI 2) hx hb dX2_timesByHalves_95 (by decide) ?_
        refine lv_idiv hx hb dX2_timesByHalves_96 (by decide) ?_
        refine lv_topi (nm_r (show _ = nI 4 from by decide) ?_)
        refine m_callSi (As := [.int (nI (n_8 (x >>> 8) (y >>> 8))), .int (nI 128), .int (nI 4)]) (rest := []) C0 hl hP hD hS (c_X2_tbh_4 l D cY (n_8 (x >>> 8) (y >>> 8)) 128 (by first | decide | exact Nat.lt_of_le_of_lt Nat.and_le_right (by decide) | (rw [Nat.shiftRight_eq_div_pow]; omega) | exact Nat.xor_lt_two_pow (n := 8) (by rw [Nat.shiftRight_eq_div_pow]; omega) (Nat.lt_of_le_of_lt Nat.and_le_right (by decide)) | exact n_L8.2.2.2.1 _ _) (by first | decide | exact Nat.lt_of_le_of_lt Nat.and_le_right (by decide) | (rw [Nat.shiftRight_eq_div_pow]; omega) | exact Nat.xor_lt_two_pow (n := 8) (by rw [Nat.shiftRight_eq_div_pow]; omega) (Nat.lt_of_le_of_lt Nat.and_le_right (by decide)) | exact n_L8.2.2.2.1 _ _)) (va_cwS 3 hts gX2_timesByHalves_X2_timesByHalves rfl rfl rfl (by decide +kernel) ⟨Nat.le_of_ble_eq_true rfl, Nat.le_of_ble_eq_true rfl⟩) dX2_timesByHalves_97 [] rfl rfl rfl (Nat.le_of_ble_eq_true rfl) (Nat.zero_le _) (Nat.zero_le _) (fun _ => rfl) (fun r8 u H7 locs hw hP hD hS => ?_)
        try dsimp only at hw
        obtain rfl := hw
        have hP : va_P D vwCl [] H7 := hP
        have hD : va_D A [] := hD
        refine lv_istore (lv' := [(11, .int (nI (n_8 (n_8 (x >>> 8) (y >>> 8)) 128))), (10, .int (nI (n_8 ((x >>> 8) ^^^ (x &&& 255)) ((y >>> 8) ^^^ (y &&& 255))))), (9, .int (nI (n_8 (x >>> 8) (y >>> 8)))), (8, .int (nI (n_8 (x &&& 255) (y &&& 255)))), (7, .int (nI (y &&& 255))), (6, .int (nI (y >>> 8))), (5, .int (nI (x &&& 255))), (4, .int (nI (x >>> 8))), (3, .int (nI 255)), (0, .int (nI x)), (1, .int (nI y)), (2, .int (nI 8))]) hx hb dX2_timesByHalves_100 hl (by decide) rfl (fun ls hl => ?_)
        refine lv_iload hx hb dX2_timesByHalves_102 (lv_at hl 1 rfl) ?_
        refine lv_iload hx hb dX2_timesByHalves_104 (lv_at hl 3 rfl) ?_
        refine lv_ixor hx hb dX2_timesByHalves_106 ?_
        refine lv_topi (nm_r (nx_xor _ _) ?_)
        refine lv_iload_n hx hb dX2_timesByHalves_107 rfl (lv_at hl 11 rfl) ?_
        refine lv_ishl hx hb dX2_timesByHalves_108 ?_
        refine lv_topi (nm_r (m_shl _ _ (by omega)) ?_)
        refine lv_iload hx hb dX2_timesByHalves_109 (lv_at hl 0 rfl) ?_
        refine lv_ixor hx hb dX2_timesByHalves_111 ?_
        refine lv_topi (nm_r (nx_xor _ _) ?_)
        refine lv_iload hx hb dX2_timesByHalves_112 (lv_at hl 3 rfl) ?_
        refine lv_ixor hx hb dX2_timesByHalves_114 ?_
        refine lv_topi (nm_r (nx_xor _ _) ?_)
        subst hQ
        exact m_iret C0 hS dX2_timesByHalves_115 (u := ()) hP (congrArg nI (n_kar (k := 8) (c := 128) (m := 255) n_L8 (by decide) x y))
      · have c12 : ¬ (2 ≤ y) := fun q => c12 ((nI_leI (a := 2) (b := y) (by first | omega | exact Nat.lt_of_le_of_lt Nat.and_le_right (by decide) | exact Nat.lt_trans (nm_lt _ _) (by decide) | exact Nat.lt_trans (np_lt _ _) (by decide)) (by first | omega | exact Nat.lt_of_le_of_lt Nat.and_le_right (by decide) | exact Nat.lt_trans (nm_lt _ _) (by decide) | exact Nat.lt_trans (np_lt _ _) (by decide))).mpr q)
        refine lv_iload_n hx hb dX2_timesByHalves_15 rfl (lv_at hl 0 rfl) ?_
        refine lv_iload_n hx hb dX2_timesByHalves_16 rfl (lv_at hl 1 rfl) ?_
        refine lv_imul hx hb dX2_timesByHalves_17 ?_
        refine lv_topi (nm_r (pk_mul _ _) ?_)
        subst hQ
        exact m_iret C0 hS dX2_timesByHalves_18 (u := ()) hP (congrArg nI (by first | exact n_sm n_L16 (by omega) hyy | exact n_sm' n_L16 hxx (by omega)))
set_option maxHeartbeats 4000000 in
set_option maxRecDepth 100000 in
theorem c_X2_timesSquareOfPower (l : Launch) (D : va_G) (cY : Nat → ClassId) (kn v h : Nat) (f : Nat → Nat) (hH : n_H h) (hv : v < 2 ^ h) (hf : n_tb0 h f) : m_Mi l yX2_timesSquareOfPower wsX2_timesSquareOfPower 0 0 D cY [.int (nI v), .int (nI h), .ref kn] [(kn, .inl (cY 0, 256, .inl (m_nf f)))] (fun (res : Int32) (u : Unit) => res = nI ((v <<< h) ^^^ nm v (2 ^ (h - 1)))) (fun (u : Unit) => [(kn, .inl (cY 0, 256, .inl (m_nf f)))]) := by
  refine m_enterI (cc := cX2_timesSquareOfPower) (maxL := 5) (ret := (some .int)) (by decide +kernel) rfl (Nat.le_of_ble_eq_true rfl) ?_
  intro p e s m below meth c A ls C0 hP hD hl
  obtain ⟨hx, hb, hr, hml, hts, hown, hlocks, hK, hA⟩ := id C0
  generalize hQ : MQ below _ _ s 0 0 A = Q
  have hS : va_S A s.heap s.heap [] := va_S.rf
  have hl : lv_has ls 5 [(0, .int (nI v)), (1, .int (nI h)), (2, .ref kn)] := hl
  have hH9 := n_H9 hH
  have hv8 : v < 256 := Nat.lt_of_lt_of_le hv (Nat.pow_le_pow_right (n := 2) (by decide) (show h ≤ 8 by omega))
  refine lv_iload_n hx hb dX2_timesSquareOfPower_0 rfl (lv_at hl 0 rfl) ?_
  refine lv_iload_n hx hb dX2_timesSquareOfPower_1 rfl (lv_at hl 1 rfl) ?_
  refine lv_ishl hx hb dX2_timesSquareOfPower_2 ?_
  refine lv_topi (nm_r (m_shl _ _ (by omega)) ?_)
  refine lv_istore_n (lv' := [(3, .int (nI (v <<< h))), (0, .int (nI v)), (1, .int (nI h)), (2, .ref kn)]) hx hb dX2_timesSquareOfPower_3 rfl hl (by decide) rfl (fun ls hl => ?_)
  refine lv_iconst (v := nI 0) hx hb dX2_timesSquareOfPower_4 (by decide) ?_
  refine lv_istore (lv' := [(4, .int (nI 0)), (3, .int (nI (v <<< h))), (0, .int (nI v)), (1, .int (nI h)), (2, .ref kn)]) hx hb dX2_timesSquareOfPower_5 hl (by decide) rfl (fun ls hl => ?_)
  have lp7_1 : ∀ (nn : Nat) (k : Nat) (z : Nat) (H : Heap) (locs : List Loc) (ls : Array Slot), (k ≤ h) → (z = (v <<< h) ^^^ nm (v % 2 ^ k) (2 ^ (h - 1))) → h - k < nn → va_P D vwCl [(kn, .inl (cY 0, 256, .inl (m_nf f)))] H → va_D A [(kn, .inl (cY 0, 256, .inl (m_nf f)))] → va_S A s.heap H locs → lv_has ls 5 [(0, .int (nI v)), (1, .int (nI h)), (2, .ref kn), (3, .int (nI z)), (4, .int (nI k))] → W p l e { frames := 0, cells := 0, slots := 0, locals := 0 } s m ([.int (nI v), .int (nI h), .ref kn] : List Value).toArray below meth c H locs 0 0 Q (F0 m 7 ls []) := by
    intro nn
    induction nn with
    | zero => intros; omega
    | succ nn ih7 =>
      intro k z H locs ls hk hz hmz hP hD hS hl
      refine lv_iload hx hb dX2_timesSquareOfPower_7 (lv_at hl 4 rfl) ?_
      refine lv_iload_n hx hb dX2_timesSquareOfPower_9 rfl (lv_at hl 1 rfl) ?_
      refine lv_icmp_ge (tgt := 50) hx hb dX2_timesSquareOfPower_10 (by decide) (fun c10 => ?_) (fun c10 => ?_)
      · have c10 : h ≤ k := (nI_leI (a := h) (b := k) (by first | omega | exact Nat.lt_of_le_of_lt Nat.and_le_right (by decide) | exact Nat.lt_trans (nm_lt _ _) (by decide) | exact Nat.lt_trans (np_lt _ _) (by decide)) (by first | omega | exact Nat.lt_of_le_of_lt Nat.and_le_right (by decide) | exact Nat.lt_trans (nm_lt _ _) (by decide) | exact Nat.lt_trans (np_lt _ _) (by decide))).mp c10
        refine lv_iload_n hx hb dX2_timesSquareOfPower_50 rfl (lv_at hl 3 rfl) ?_
        subst hQ
        exact m_iret C0 hS dX2_timesSquareOfPower_51 (u := ()) hP (by rw [hz, show k = h by omega, Nat.mod_eq_of_lt hv])
      · have c10 : ¬ (h ≤ k) := fun q => c10 ((nI_leI (a := h) (b := k) (by first | omega | exact Nat.lt_of_le_of_lt Nat.and_le_right (by decide) | exact Nat.lt_trans (nm_lt _ _) (by decide) | exact Nat.lt_trans (np_lt _ _) (by decide)) (by first | omega | exact Nat.lt_of_le_of_lt Nat.and_le_right (by decide) | exact Nat.lt_trans (nm_lt _ _) (by decide) | exact Nat.lt_trans (np_lt _ _) (by decide))).mpr q)
        refine lv_iload hx hb dX2_timesSquareOfPower_13 (lv_at hl 4 rfl) ?_
        refine lv_bipush (v := nI 16) hx hb dX2_timesSquareOfPower_15 (by decide) ?_
        refine lv_icmp_ge (tgt := 50) hx hb dX2_timesSquareOfPower_17 (by decide) (fun c17 => ?_) (fun c17 => ?_)
        · have c17 : 16 ≤ k := (nI_leI (a := 16) (b := k) (by first | omega | exact Nat.lt_of_le_of_lt Nat.and_le_right (by decide) | exact Nat.lt_trans (nm_lt _ _) (by decide) | exact Nat.lt_trans (np_lt _ _) (by decide)) (by first | omega | exact Nat.lt_of_le_of_lt Nat.and_le_right (by decide) | exact Nat.lt_trans (nm_lt _ _) (by decide) | exact Nat.lt_trans (np_lt _ _) (by decide))).mp c17
          exfalso; omega
        · have c17 : ¬ (16 ≤ k) := fun q => c17 ((nI_leI (a := 16) (b := k) (by first | omega | exact Nat.lt_of_le_of_lt Nat.and_le_right (by decide) | exact Nat.lt_trans (nm_lt _ _) (by decide) | exact Nat.lt_trans (np_lt _ _) (by decide)) (by first | omega | exact Nat.lt_of_le_of_lt Nat.and_le_right (by decide) | exact Nat.lt_trans (nm_lt _ _) (by decide) | exact Nat.lt_trans (np_lt _ _) (by decide))).mpr q)
          refine lv_iload_n hx hb dX2_timesSquareOfPower_20 rfl (lv_at hl 0 rfl) ?_
          refine lv_iload hx hb dX2_timesSquareOfPower_21 (lv_at hl 4 rfl) ?_
          refine lv_ishr hx hb dX2_timesSquareOfPower_23 ?_
          refine lv_topi (nm_r (m_shr _ _ (by omega) (by omega)) ?_)
          refine lv_iconst (v := nI 1) hx hb dX2_timesSquareOfPower_24 (by decide) ?_
          refine lv_iand hx hb dX2_timesSquareOfPower_25 ?_
          refine lv_topi (nm_r (nx_and _ _) ?_)
          refine lv_iconst (v := nI 1) hx hb dX2_timesSquareOfPower_26 (by decide) ?_
          refine lv_icmp_ne (tgt := 44) hx hb dX2_timesSquareOfPower_27 (by decide) (fun c27 => ?_) (fun c27 => ?_)
          · have c27 : ¬ (((v >>> k) &&& 1) = 1) := fun q => c27 ((nI_eq (a := ((v >>> k) &&& 1)) (b := 1) (by first | omega | exact Nat.lt_of_le_of_lt Nat.and_le_right (by decide) | exact Nat.lt_trans (nm_lt _ _) (by decide) | exact Nat.lt_trans (np_lt _ _) (by decide)) (by first | omega | exact Nat.lt_of_le_of_lt Nat.and_le_right (by decide) | exact Nat.lt_trans (nm_lt _ _) (by decide) | exact Nat.lt_trans (np_lt _ _) (by decide))).mpr q)
            refine lv_iinc (v := nI (k + 1)) (lv' := [(4, .int (nI (k + 1))), (0, .int (nI v)), (1, .int (nI h)), (2, .ref kn), (3, .int (nI z))]) hx hb dX2_timesSquareOfPower_44 hl (k := 4) rfl (nI_add _ 1) (by decide) rfl (fun ls hl => ?_)
            refine lv_goto (tgt := 7) hx hb dX2_timesSquareOfPower_47 (by decide) ?_
            exact ih7 (k + 1) z _ _ ls (by first | assumption | omega) (by first | (rw [n_bitl, if_neg (fun q => c27 ((n_tb v k).mpr q)), Nat.xor_zero]; exact hz) | (rw [n_bitl, if_pos ((n_tb v k).mp c27), hz, show 16 * k + h - 1 = 16 * k + (h - 1) by omega, hf k (h - 1) (by omega) (by omega), Nat.xor_assoc])) (by omega) hP hD hS (lv_sub hl [1, 2, 3, 4, 0] rfl)
          · have c27 : ((v >>> k) &&& 1) = 1 := (nI_eq (a := ((v >>> k) &&& 1)) (b := 1) (by first | omega | exact Nat.lt_of_le_of_lt Nat.and_le_right (by decide) | exact Nat.lt_trans (nm_lt _ _) (by decide) | exact Nat.lt_trans (np_lt _ _) (by decide)) (by first | omega | exact Nat.lt_of_le_of_lt Nat.and_le_right (by decide) | exact Nat.lt_trans (nm_lt _ _) (by decide) | exact Nat.lt_trans (np_lt _ _) (by decide))).mp c27
            refine lv_iload_n hx hb dX2_timesSquareOfPower_30 rfl (lv_at hl 3 rfl) ?_
            refine lv_aload_n hx hb dX2_timesSquareOfPower_31 rfl (lv_at hl 2 rfl) ?_
            refine lv_bipush (v := nI 16) hx hb dX2_timesSquareOfPower_32 (by decide) ?_
            refine lv_iload hx hb dX2_timesSquareOfPower_34 (lv_at hl 4 rfl) ?_
            refine lv_imul hx hb dX2_timesSquareOfPower_36 ?_
            refine lv_topi (nm_r (pk_mul _ _) ?_)
            refine lv_iload_n hx hb dX2_timesSquareOfPower_37 rfl (lv_at hl 1 rfl) ?_
            refine lv_iadd hx hb dX2_timesSquareOfPower_38 ?_
            refine lv_topi (nm_r (nI_add _ _) ?_)
            refine lv_iconst (v := nI 1) hx hb dX2_timesSquareOfPower_39 (by decide) ?_
            refine lv_isub hx hb dX2_timesSquareOfPower_40 ?_
            refine lv_topi (nm_r (pk_sub (by omega)) ?_)
            refine va_iald hx hb hK hP 0 0 rfl rfl (m_in (n := ((16 * k) + h) - 1) (by first | assumption | omega) (by decide)) dX2_timesSquareOfPower_41 ?_
            refine lv_topi (nm_r (m_ldn (g := f) (n := ((16 * k) + h) - 1) (by omega)) ?_)
            refine lv_ixor hx hb dX2_timesSquareOfPower_42 ?_
            refine lv_topi (nm_r (nx_xor _ _) ?_)
            refine lv_istore_n (lv' := [(3, .int (nI (z ^^^ (f (((16 * k) + h) - 1))))), (0, .int (nI v)), (1, .int (nI h)), (2, .ref kn), (4, .int (nI k))]) hx hb dX2_timesSquareOfPower_43 rfl hl (by decide) rfl (fun ls hl => ?_)
            refine lv_iinc (v := nI (k + 1)) (lv' := [(4, .int (nI (k + 1))), (3, .int (nI (z ^^^ (f (((16 * k) + h) - 1))))), (0, .int (nI v)), (1, .int (nI h)), (2, .ref kn)]) hx hb dX2_timesSquareOfPower_44 hl (k := 4) rfl (nI_add _ 1) (by decide) rfl (fun ls hl => ?_)
            refine lv_goto (tgt := 7) hx hb dX2_timesSquareOfPower_47 (by decide) ?_
            exact ih7 (k + 1) (z ^^^ (f (((16 * k) + h) - 1))) _ _ ls (by first | assumption | omega) (by first | (rw [n_bitl, if_neg (fun q => c27 ((n_tb v k).mpr q)), Nat.xor_zero]; exact hz) | (rw [n_bitl, if_pos ((n_tb v k).mp c27), hz, show 16 * k + h - 1 = 16 * k + (h - 1) by omega, hf k (h - 1) (by omega) (by omega), Nat.xor_assoc])) (by omega) hP hD hS (lv_sub hl [2, 3, 4, 1, 0] rfl)
  exact lp7_1 _ 0 (v <<< h) _ _ ls (by first | assumption | omega) (by rw [Nat.pow_zero, Nat.mod_one, nm_zero, Nat.xor_zero]) (Nat.lt_succ_self _) hP hD hS (lv_sub hl [2, 3, 4, 1, 0] rfl)
set_option maxHeartbeats 4000000 in
set_option maxRecDepth 100000 in
theorem c_X2_addProductsBelow (l : Launch) (D : va_G) (cY : Nat → ClassId) (kn h : Nat) (f : Nat → Nat) (hH : n_H h) (hf : n_tb0 h f) : m_Mv l yX2_addProductsBelow wsX2_addProductsBelow 1 24 D cY [.int (nI (2 * h)), .int (nI h), .ref kn] [(kn, .inl (cY 0, 256, .inl (m_nf f)))] (fun (u : (Nat → Nat)) => n_tb0 (2 * h) u) (fun (u : (Nat → Nat)) => [(kn, .inl (cY 0, 256, .inl (m_nf u)))]) := by
  refine m_enterV (cc := cX2_addProductsBelow) (maxL := 6) (ret := none) (by decide +kernel) rfl (Nat.le_of_ble_eq_true rfl) ?_
  intro p e s m below meth c A ls C0 hP hD hl
  obtain ⟨hx, hb, hr, hml, hts, hown, hlocks, hK, hA⟩ := id C0
  generalize hQ : MQ below _ _ s 0 0 A = Q
  have hS : va_S A s.heap s.heap [] := va_S.rf
  have hl : lv_has ls 6 [(0, .int (nI (2 * h))), (1, .int (nI h)), (2, .ref kn)] := hl
  have hH9 := n_H9 hH
  refine lv_iconst (v := nI 0) hx hb dX2_addProductsBelow_0 (by decide) ?_
  refine lv_istore_n (lv' := [(3, .int (nI 0)), (0, .int (nI (2 * h))), (1, .int (nI h)), (2, .ref kn)]) hx hb dX2_addProductsBelow_1 rfl hl (by decide) rfl (fun ls hl => ?_)
  have lp2_1 : ∀ (nn : Nat) (i : Nat) (g : Nat → Nat) (H : Heap) (locs : List Loc) (ls : Array Slot), (i ≤ 2 * h) → (n_tb1 h i 0 g) → 2 * h - i < nn → va_P D vwCl [(kn, .inl (cY 0, 256, .inl (m_nf g)))] H → va_D A [(kn, .inl (cY 0, 256, .inl (m_nf g)))] → va_S A s.heap H locs → lv_has ls 6 [(0, .int (nI (2 * h))), (1, .int (nI h)), (2, .ref kn), (3, .int (nI i))] → W p l e { frames := 1, cells := 0, slots := 0, locals := 24 } s m ([.int (nI (2 * h)), .int (nI h), .ref kn] : List Value).toArray below meth c H locs 0 0 Q (F0 m 2 ls []) := by
    intro nn
    induction nn with
    | zero => intros; omega
    | succ nn ih2 =>
      intro i g H locs ls hi hg hmz hP hD hS hl
      refine lv_iload_n hx hb dX2_addProductsBelow_2 rfl (lv_at hl 3 rfl) ?_
      refine lv_iload_n hx hb dX2_addProductsBelow_3 rfl (lv_at hl 0 rfl) ?_
      refine lv_icmp_ge (tgt := 144) hx hb dX2_addProductsBelow_4 (by decide) (fun c4 => ?_) (fun c4 => ?_)
      · have c4 : (2 * h) ≤ i := (nI_leI (a := (2 * h)) (b := i) (by first | omega | exact Nat.lt_of_le_of_lt Nat.and_le_right (by decide) | exact Nat.lt_trans (nm_lt _ _) (by decide) | exact Nat.lt_trans (np_lt _ _) (by decide)) (by first | omega | exact Nat.lt_of_le_of_lt Nat.and_le_right (by decide) | exact Nat.lt_trans (nm_lt _ _) (by decide) | exact Nat.lt_trans (np_lt _ _) (by decide))).mp c4
        subst hQ
        exact m_vret C0 hS dX2_addProductsBelow_144 (u := g) hP (n_tb1_end hg (by omega))
      · have c4 : ¬ ((2 * h) ≤ i) := fun q => c4 ((nI_leI (a := (2 * h)) (b := i) (by first | omega | exact Nat.lt_of_le_of_lt Nat.and_le_right (by decide) | exact Nat.lt_trans (nm_lt _ _) (by decide) | exact Nat.lt_trans (np_lt _ _) (by decide)) (by first | omega | exact Nat.lt_of_le_of_lt Nat.and_le_right (by decide) | exact Nat.lt_trans (nm_lt _ _) (by decide) | exact Nat.lt_trans (np_lt _ _) (by decide))).mpr q)
        refine lv_iload_n hx hb dX2_addProductsBelow_7 rfl (lv_at hl 3 rfl) ?_
        refine lv_bipush (v := nI 16) hx hb dX2_addProductsBelow_8 (by decide) ?_
        refine lv_icmp_ge (tgt := 144) hx hb dX2_addProductsBelow_10 (by decide) (fun c10 => ?_) (fun c10 => ?_)
        · have c10 : 16 ≤ i := (nI_leI (a := 16) (b := i) (by first | omega | exact Nat.lt_of_le_of_lt Nat.and_le_right (by decide) | exact Nat.lt_trans (nm_lt _ _) (by decide) | exact Nat.lt_trans (np_lt _ _) (by decide)) (by first | omega | exact Nat.lt_of_le_of_lt Nat.and_le_right (by decide) | exact Nat.lt_trans (nm_lt _ _) (by decide) | exact Nat.lt_trans (np_lt _ _) (by decide))).mp c10
          exfalso; omega
        · have c10 : ¬ (16 ≤ i) := fun q => c10 ((nI_leI (a := 16) (b := i) (by first | omega | exact Nat.lt_of_le_of_lt Nat.and_le_right (by decide) | exact Nat.lt_trans (nm_lt _ _) (by decide) | exact Nat.lt_trans (np_lt _ _) (by decide)) (by first | omega | exact Nat.lt_of_le_of_lt Nat.and_le_right (by decide) | exact Nat.lt_trans (nm_lt _ _) (by decide) | exact Nat.lt_trans (np_lt _ _) (by decide))).mpr q)
          refine lv_iconst (v := nI 0) hx hb dX2_addProductsBelow_13 (by decide) ?_
          refine lv_istore (lv' := [(4, .int (nI 0)), (0, .int (nI (2 * h))), (1, .int (nI h)), (2, .ref kn), (3, .int (nI i))]) hx hb dX2_addProductsBelow_14 hl (by decide) rfl (fun ls hl => ?_)
          have lp16_2 : ∀ (nn : Nat) (j : Nat) (g2 : Nat → Nat) (H : Heap) (locs : List Loc) (ls : Array Slot), (j ≤ 2 * h) → (n_tb1 h i j g2) → 2 * h - j < nn → va_P D vwCl [(kn, .inl (cY 0, 256, .inl (m_nf g2)))] H → va_D A [(kn, .inl (cY 0, 256, .inl (m_nf g2)))] → va_S A s.heap H locs → lv_has ls 6 [(0, .int (nI (2 * h))), (1, .int (nI h)), (2, .ref kn), (3, .int (nI i)), (4, .int (nI j))] → W p l e { frames := 1, cells := 0, slots := 0, locals := 24 } s m ([.int (nI (2 * h)), .int (nI h), .ref kn] : List Value).toArray below meth c H locs 0 0 Q (F0 m 16 ls []) := by
            intro nn
            induction nn with
            | zero => intros; omega
            | succ nn ih16 =>
              intro j g2 H locs ls hj hg2 hmz hP hD hS hl
              refine lv_iload hx hb dX2_addProductsBelow_16 (lv_at hl 4 rfl) ?_
              refine lv_iload_n hx hb dX2_addProductsBelow_18 rfl (lv_at hl 0 rfl) ?_
              refine lv_icmp_ge (tgt := 138) hx hb dX2_addProductsBelow_19 (by decide) (fun c19 => ?_) (fun c19 => ?_)
              · have c19 : (2 * h) ≤ j := (nI_leI (a := (2 * h)) (b := j) (by first | omega | exact Nat.lt_of_le_of_lt Nat.and_le_right (by decide) | exact Nat.lt_trans (nm_lt _ _) (by decide) | exact Nat.lt_trans (np_lt _ _) (by decide)) (by first | omega | exact Nat.lt_of_le_of_lt Nat.and_le_right (by decide) | exact Nat.lt_trans (nm_lt _ _) (by decide) | exact Nat.lt_trans (np_lt _ _) (by decide))).mp c19
                refine lv_iinc (v := nI (i + 1)) (lv' := [(3, .int (nI (i + 1))), (0, .int (nI (2 * h))), (1, .int (nI h)), (2, .ref kn), (4, .int (nI j))]) hx hb dX2_addProductsBelow_138 hl (k := 3) rfl (nI_add _ 1) (by decide) rfl (fun ls hl => ?_)
                refine lv_goto (tgt := 2) hx hb dX2_addProductsBelow_141 (by decide) ?_
                exact ih2 (i + 1) g2 _ _ ls (by first | assumption | omega) (n_tb1_row hg2 (by omega)) (by omega) hP hD hS (lv_sub hl [1, 2, 3, 0] rfl)
              · have c19 : ¬ ((2 * h) ≤ j) := fun q => c19 ((nI_leI (a := (2 * h)) (b := j) (by first | omega | exact Nat.lt_of_le_of_lt Nat.and_le_right (by decide) | exact Nat.lt_trans (nm_lt _ _) (by decide) | exact Nat.lt_trans (np_lt _ _) (by decide)) (by first | omega | exact Nat.lt_of_le_of_lt Nat.and_le_right (by decide) | exact Nat.lt_trans (nm_lt _ _) (by decide) | exact Nat.lt_trans (np_lt _ _) (by decide))).mpr q)
                refine lv_iload hx hb dX2_addProductsBelow_22 (lv_at hl 4 rfl) ?_
                refine lv_bipush (v := nI 16) hx hb dX2_addProductsBelow_24 (by decide) ?_
                refine lv_icmp_ge (tgt := 138) hx hb dX2_addProductsBelow_26 (by decide) (fun c26 => ?_) (fun c26 => ?_)
                · have c26 : 16 ≤ j := (nI_leI (a := 16) (b := j) (by first | omega | exact Nat.lt_of_le_of_lt Nat.and_le_right (by decide) | exact Nat.lt_trans (nm_lt _ _) (by decide) | exact Nat.lt_trans (np_lt _ _) (by decide)) (by first | omega | exact Nat.lt_of_le_of_lt Nat.and_le_right (by decide) | exact Nat.lt_trans (nm_lt _ _) (by decide) | exact Nat.lt_trans (np_lt _ _) (by decide))).mp c26
                  exfalso; omega
                · have c26 : ¬ (16 ≤ j) := fun q => c26 ((nI_leI (a := 16) (b := j) (by first | omega | exact Nat.lt_of_le_of_lt Nat.and_le_right (by decide) | exact Nat.lt_trans (nm_lt _ _) (by decide) | exact Nat.lt_trans (np_lt _ _) (by decide)) (by first | omega | exact Nat.lt_of_le_of_lt Nat.and_le_right (by decide) | exact Nat.lt_trans (nm_lt _ _) (by decide) | exact Nat.lt_trans (np_lt _ _) (by decide))).mpr q)
                  refine lv_iload_n hx hb dX2_addProductsBelow_29 rfl (lv_at hl 3 rfl) ?_
                  refine lv_iload_n hx hb dX2_addProductsBelow_30 rfl (lv_at hl 1 rfl) ?_
                  refine lv_icmp_lt (tgt := 74) hx hb dX2_addProductsBelow_31 (by decide) (fun c31 => ?_) (fun c31 => ?_)
                  · have c31 : i < h := (nI_ltI (a := i) (b := h) (by first | omega | exact Nat.lt_of_le_of_lt Nat.and_le_right (by decide) | exact Nat.lt_trans (nm_lt _ _) (by decide) | exact Nat.lt_trans (np_lt _ _) (by decide)) (by first | omega | exact Nat.lt_of_le_of_lt Nat.and_le_right (by decide) | exact Nat.lt_trans (nm_lt _ _) (by decide) | exact Nat.lt_trans (np_lt _ _) (by decide))).mp c31
                    refine lv_iload_n hx hb dX2_addProductsBelow_74 rfl (lv_at hl 3 rfl) ?_
                    refine lv_iload_n hx hb dX2_addProductsBelow_75 rfl (lv_at hl 1 rfl) ?_
                    refine lv_icmp_lt (tgt := 104) hx hb dX2_addProductsBelow_76 (by decide) (fun c76 => ?_) (fun c76 => ?_)
                    · have c76 : i < h := (nI_ltI (a := i) (b := h) (by first | omega | exact Nat.lt_of_le_of_lt Nat.and_le_right (by decide) | exact Nat.lt_trans (nm_lt _ _) (by decide) | exact Nat.lt_trans (np_lt _ _) (by decide)) (by first | omega | exact Nat.lt_of_le_of_lt Nat.and_le_right (by decide) | exact Nat.lt_trans (nm_lt _ _) (by decide) | exact Nat.lt_trans (np_lt _ _) (by decide))).mp c76
                      refine lv_iload hx hb dX2_addProductsBelow_104 (lv_at hl 4 rfl) ?_
                      refine lv_iload_n hx hb dX2_addProductsBelow_106 rfl (lv_at hl 1 rfl) ?_
                      refine lv_icmp_lt (tgt := 132) hx hb dX2_addProductsBelow_107 (by decide) (fun c107 => ?_) (fun c107 => ?_)
                      · have c107 : j < h := (nI_ltI (a := j) (b := h) (by first | omega | exact Nat.lt_of_le_of_lt Nat.and_le_right (by decide) | exact Nat.lt_trans (nm_lt _ _) (by decide) | exact Nat.lt_trans (np_lt _ _) (by decide)) (by first | omega | exact Nat.lt_of_le_of_lt Nat.and_le_right (by decide) | exact Nat.lt_trans (nm_lt _ _) (by decide) | exact Nat.lt_trans (np_lt _ _) (by decide))).mp c107
                        refine lv_iinc (v := nI (j + 1)) (lv' := [(4, .int (nI (j + 1))), (0, .int (nI (2 * h))), (1, .int (nI h)), (2, .ref kn), (3, .int (nI i))]) hx hb dX2_addProductsBelow_132 hl (k := 4) rfl (nI_add _ 1) (by decide) rfl (fun ls hl => ?_)
                        refine lv_goto (tgt := 16) hx hb dX2_addProductsBelow_135 (by decide) ?_
                        exact ih16 (j + 1) g2 _ _ ls (by first | assumption | omega) (by first | exact n_tb1_skip hg2 (by omega) (by omega) | exact n_tb1_put hg2 (by omega) (by omega) (by rw [show 16 * (i - h) + j - h = 16 * (i - h) + (j - h) by omega, hg2 (i - h) (j - h) (by omega)]; exact (n_tA hH (by omega) (by omega) (by omega) (by omega)).2.symm) | exact n_tb1_put hg2 (by omega) (by omega) (by rw [hg2 (i - h) j (by omega)]; exact (n_tB hH (by omega) (by omega) (by omega)).symm) | exact n_tb1_put hg2 (by omega) (by omega) (by rw [show 16 * i + j - h = 16 * i + (j - h) by omega, hg2 i (j - h) (by omega)]; exact (n_tC hH (by omega) (by omega) (by omega)).symm)) (by omega) hP hD hS (lv_sub hl [1, 2, 3, 4, 0] rfl)
                      · have c107 : ¬ (j < h) := fun q => c107 ((nI_ltI (a := j) (b := h) (by first | omega | exact Nat.lt_of_le_of_lt Nat.and_le_right (by decide) | exact Nat.lt_trans (nm_lt _ _) (by decide) | exact Nat.lt_trans (np_lt _ _) (by decide)) (by first | omega | exact Nat.lt_of_le_of_lt Nat.and_le_right (by decide) | exact Nat.lt_trans (nm_lt _ _) (by decide) | exact Nat.lt_trans (np_lt _ _) (by decide))).mpr q)
                        refine lv_aload_n hx hb dX2_addProductsBelow_110 rfl (lv_at hl 2 rfl) ?_
                        refine lv_bipush (v := nI 16) hx hb dX2_addProductsBelow_111 (by decide) ?_
                        refine lv_iload_n hx hb dX2_addProductsBelow_113 rfl (lv_at hl 3 rfl) ?_
                        refine lv_imul hx hb dX2_addProductsBelow_114 ?_
                        refine lv_topi (nm_r (pk_mul _ _) ?_)
                        refine lv_iload hx hb dX2_addProductsBelow_115 (lv_at hl 4 rfl) ?_
                        refine lv_iadd hx hb dX2_addProductsBelow_117 ?_
                        refine lv_topi (nm_r (nI_add _ _) ?_)
                        refine lv_aload_n hx hb dX2_addProductsBelow_118 rfl (lv_at hl 2 rfl) ?_
                        refine lv_bipush (v := nI 16) hx hb dX2_addProductsBelow_119 (by decide) ?_
                        refine lv_iload_n hx hb dX2_addProductsBelow_121 rfl (lv_at hl 3 rfl) ?_
                        refine lv_imul hx hb dX2_addProductsBelow_122 ?_
                        refine lv_topi (nm_r (pk_mul _ _) ?_)
                        refine lv_iload hx hb dX2_addProductsBelow_123 (lv_at hl 4 rfl) ?_
                        refine lv_iadd hx hb dX2_addProductsBelow_125 ?_
                        refine lv_topi (nm_r (nI_add _ _) ?_)
                        refine lv_iload_n hx hb dX2_addProductsBelow_126 rfl (lv_at hl 1 rfl) ?_
                        refine lv_isub hx hb dX2_addProductsBelow_127 ?_
                        refine lv_topi (nm_r (pk_sub (by omega)) ?_)
                        refine va_iald hx hb hK hP 0 0 rfl rfl (m_in (n := ((16 * i) + j) - h) (by first | assumption | omega) (by decide)) dX2_addProductsBelow_128 ?_
                        refine lv_topi (nm_r (m_ldn (g := g2) (n := ((16 * i) + j) - h) (by omega)) ?_)
                        refine lv_iload_n hx hb dX2_addProductsBelow_129 rfl (lv_at hl 1 rfl) ?_
                        refine lv_ishl hx hb dX2_addProductsBelow_130 ?_
                        refine lv_topi (nm_r (m_shl _ _ (by omega)) ?_)
                        refine va_iast hx hb hK hP hD hS 0 0 rfl rfl (m_in (n := (16 * i) + j) (by first | assumption | omega) (by decide)) dX2_addProductsBelow_131 (fun H3 locs hP hD hS => ?_)
                        have hP : va_P D vwCl [(kn, .inl (cY 0, 256, .inl (upd (m_nf g2) (nI ((16 * i) + j)).toNatClampNeg (nI ((g2 (((16 * i) + j) - h)) <<< h)))))] H3 := hP
                        have hD : va_D A [(kn, .inl (cY 0, 256, .inl (upd (m_nf g2) (nI ((16 * i) + j)).toNatClampNeg (nI ((g2 (((16 * i) + j) - h)) <<< h)))))] := hD
                        rw [m_upd (g := g2) (n := (16 * i) + j) (v := (g2 (((16 * i) + j) - h)) <<< h) (by omega)] at hP hD
                        have hP : va_P D vwCl [(kn, .inl (cY 0, 256, .inl (m_nf (m_up g2 ((16 * i) + j) ((g2 (((16 * i) + j) - h)) <<< h)))))] H3 := hP
                        have hD : va_D A [(kn, .inl (cY 0, 256, .inl (m_nf (m_up g2 ((16 * i) + j) ((g2 (((16 * i) + j) - h)) <<< h)))))] := hD
                        refine lv_iinc (v := nI (j + 1)) (lv' := [(4, .int (nI (j + 1))), (0, .int (nI (2 * h))), (1, .int (nI h)), (2, .ref kn), (3, .int (nI i))]) hx hb dX2_addProductsBelow_132 hl (k := 4) rfl (nI_add _ 1) (by decide) rfl (fun ls hl => ?_)
                        refine lv_goto (tgt := 16) hx hb dX2_addProductsBelow_135 (by decide) ?_
                        exact ih16 (j + 1) (m_up g2 ((16 * i) + j) ((g2 (((16 * i) + j) - h)) <<< h)) _ _ ls (by first | assumption | omega) (by first | exact n_tb1_skip hg2 (by omega) (by omega) | exact n_tb1_put hg2 (by omega) (by omega) (by rw [show 16 * (i - h) + j - h = 16 * (i - h) + (j - h) by omega, hg2 (i - h) (j - h) (by omega)]; exact (n_tA hH (by omega) (by omega) (by omega) (by omega)).2.symm) | exact n_tb1_put hg2 (by omega) (by omega) (by rw [hg2 (i - h) j (by omega)]; exact (n_tB hH (by omega) (by omega) (by omega)).symm) | exact n_tb1_put hg2 (by omega) (by omega) (by rw [show 16 * i + j - h = 16 * i + (j - h) by omega, hg2 i (j - h) (by omega)]; exact (n_tC hH (by omega) (by omega) (by omega)).symm)) (by omega) hP hD hS (lv_sub hl [1, 2, 3, 4, 0] rfl)
                    · have c76 : ¬ (i < h) := fun q => c76 ((nI_ltI (a := i) (b := h) (by first | omega | exact Nat.lt_of_le_of_lt Nat.and_le_right (by decide) | exact Nat.lt_trans (nm_lt _ _) (by decide) | exact Nat.lt_trans (np_lt _ _) (by decide)) (by first | omega | exact Nat.lt_of_le_of_lt Nat.and_le_right (by decide) | exact Nat.lt_trans (nm_lt _ _) (by decide) | exact Nat.lt_trans (np_lt _ _) (by decide))).mpr q)
                      refine lv_aload_n hx hb dX2_addProductsBelow_79 rfl (lv_at hl 2 rfl) ?_
                      refine lv_bipush (v := nI 16) hx hb dX2_addProductsBelow_80 (by decide) ?_
                      refine lv_iload_n hx hb dX2_addProductsBelow_82 rfl (lv_at hl 3 rfl) ?_
                      refine lv_imul hx hb dX2_addProductsBelow_83 ?_
                      refine lv_topi (nm_r (pk_mul _ _) ?_)
                      refine lv_iload hx hb dX2_addProductsBelow_84 (lv_at hl 4 rfl) ?_
                      refine lv_iadd hx hb dX2_addProductsBelow_86 ?_
                      refine lv_topi (nm_r (nI_add _ _) ?_)
                      refine lv_aload_n hx hb dX2_addProductsBelow_87 rfl (lv_at hl 2 rfl) ?_
                      refine lv_bipush (v := nI 16) hx hb dX2_addProductsBelow_88 (by decide) ?_
                      refine lv_iload_n hx hb dX2_addProductsBelow_90 rfl (lv_at hl 3 rfl) ?_
                      refine lv_iload_n hx hb dX2_addProductsBelow_91 rfl (lv_at hl 1 rfl) ?_
                      refine lv_isub hx hb dX2_addProductsBelow_92 ?_
                      refine lv_topi (nm_r (pk_sub (by omega)) ?_)
                      refine lv_imul hx hb dX2_addProductsBelow_93 ?_
                      refine lv_topi (nm_r (pk_mul _ _) ?_)
                      refine lv_iload hx hb dX2_addProductsBelow_94 (lv_at hl 4 rfl) ?_
                      refine lv_iadd hx hb dX2_addProductsBelow_96 ?_
                      refine lv_topi (nm_r (nI_add _ _) ?_)
                      refine va_iald hx hb hK hP 0 0 rfl rfl (m_in (n := (16 * (i - h)) + j) (by first | assumption | omega) (by decide)) dX2_addProductsBelow_97 ?_
                      refine lv_topi (nm_r (m_ldn (g := g2) (n := (16 * (i - h)) + j) (by omega)) ?_)
                      refine lv_iload_n hx hb dX2_addProductsBelow_98 rfl (lv_at hl 1 rfl) ?_
                      refine lv_ishl hx hb dX2_addProductsBelow_99 ?_
                      refine lv_topi (nm_r (m_shl _ _ (by omega)) ?_)
                      refine va_iast hx hb hK hP hD hS 0 0 rfl rfl (m_in (n := (16 * i) + j) (by first | assumption | omega) (by decide)) dX2_addProductsBelow_100 (fun H4 locs hP hD hS => ?_)
                      have hP : va_P D vwCl [(kn, .inl (cY 0, 256, .inl (upd (m_nf g2) (nI ((16 * i) + j)).toNatClampNeg (nI ((g2 ((16 * (i - h)) + j)) <<< h)))))] H4 := hP
                      have hD : va_D A [(kn, .inl (cY 0, 256, .inl (upd (m_nf g2) (nI ((16 * i) + j)).toNatClampNeg (nI ((g2 ((16 * (i - h)) + j)) <<< h)))))] := hD
                      rw [m_upd (g := g2) (n := (16 * i) + j) (v := (g2 ((16 * (i - h)) + j)) <<< h) (by omega)] at hP hD
                      have hP : va_P D vwCl [(kn, .inl (cY 0, 256, .inl (m_nf (m_up g2 ((16 * i) + j) ((g2 ((16 * (i - h)) + j)) <<< h)))))] H4 := hP
                      have hD : va_D A [(kn, .inl (cY 0, 256, .inl (m_nf (m_up g2 ((16 * i) + j) ((g2 ((16 * (i - h)) + j)) <<< h)))))] := hD
                      refine lv_goto (tgt := 132) hx hb dX2_addProductsBelow_101 (by decide) ?_
                      refine lv_iinc (v := nI (j + 1)) (lv' := [(4, .int (nI (j + 1))), (0, .int (nI (2 * h))), (1, .int (nI h)), (2, .ref kn), (3, .int (nI i))]) hx hb dX2_addProductsBelow_132 hl (k := 4) rfl (nI_add _ 1) (by decide) rfl (fun ls hl => ?_)
                      refine lv_goto (tgt := 16) hx hb dX2_addProductsBelow_135 (by decide) ?_
                      exact ih16 (j + 1) (m_up g2 ((16 * i) + j) ((g2 ((16 * (i - h)) + j)) <<< h)) _ _ ls (by first | assumption | omega) (by first | exact n_tb1_skip hg2 (by omega) (by omega) | exact n_tb1_put hg2 (by omega) (by omega) (by rw [show 16 * (i - h) + j - h = 16 * (i - h) + (j - h) by omega, hg2 (i - h) (j - h) (by omega)]; exact (n_tA hH (by omega) (by omega) (by omega) (by omega)).2.symm) | exact n_tb1_put hg2 (by omega) (by omega) (by rw [hg2 (i - h) j (by omega)]; exact (n_tB hH (by omega) (by omega) (by omega)).symm) | exact n_tb1_put hg2 (by omega) (by omega) (by rw [show 16 * i + j - h = 16 * i + (j - h) by omega, hg2 i (j - h) (by omega)]; exact (n_tC hH (by omega) (by omega) (by omega)).symm)) (by omega) hP hD hS (lv_sub hl [1, 2, 3, 4, 0] rfl)
                  · have c31 : ¬ (i < h) := fun q => c31 ((nI_ltI (a := i) (b := h) (by first | omega | exact Nat.lt_of_le_of_lt Nat.and_le_right (by decide) | exact Nat.lt_trans (nm_lt _ _) (by decide) | exact Nat.lt_trans (np_lt _ _) (by decide)) (by first | omega | exact Nat.lt_of_le_of_lt Nat.and_le_right (by decide) | exact Nat.lt_trans (nm_lt _ _) (by decide) | exact Nat.lt_trans (np_lt _ _) (by decide))).mpr q)
                    refine lv_iload hx hb dX2_addProductsBelow_34 (lv_at hl 4 rfl) ?_
                    refine lv_iload_n hx hb dX2_addProductsBelow_36 rfl (lv_at hl 1 rfl) ?_
                    refine lv_icmp_lt (tgt := 74) hx hb dX2_addProductsBelow_37 (by decide) (fun c37 => ?_) (fun c37 => ?_)
                    · have c37 : j < h := (nI_ltI (a := j) (b := h) (by first | omega | exact Nat.lt_of_le_of_lt Nat.and_le_right (by decide) | exact Nat.lt_trans (nm_lt _ _) (by decide) | exact Nat.lt_trans (np_lt _ _) (by decide)) (by first | omega | exact Nat.lt_of_le_of_lt Nat.and_le_right (by decide) | exact Nat.lt_trans (nm_lt _ _) (by decide) | exact Nat.lt_trans (np_lt _ _) (by decide))).mp c37
                      refine lv_iload_n hx hb dX2_addProductsBelow_74 rfl (lv_at hl 3 rfl) ?_
                      refine lv_iload_n hx hb dX2_addProductsBelow_75 rfl (lv_at hl 1 rfl) ?_
                      refine lv_icmp_lt (tgt := 104) hx hb dX2_addProductsBelow_76 (by decide) (fun c76 => ?_) (fun c76 => ?_)
                      · have c76 : i < h := (nI_ltI (a := i) (b := h) (by first | omega | exact Nat.lt_of_le_of_lt Nat.and_le_right (by decide) | exact Nat.lt_trans (nm_lt _ _) (by decide) | exact Nat.lt_trans (np_lt _ _) (by decide)) (by first | omega | exact Nat.lt_of_le_of_lt Nat.and_le_right (by decide) | exact Nat.lt_trans (nm_lt _ _) (by decide) | exact Nat.lt_trans (np_lt _ _) (by decide))).mp c76
                        refine lv_iload hx hb dX2_addProductsBelow_104 (lv_at hl 4 rfl) ?_
                        refine lv_iload_n hx hb dX2_addProductsBelow_106 rfl (lv_at hl 1 rfl) ?_
                        refine lv_icmp_lt (tgt := 132) hx hb dX2_addProductsBelow_107 (by decide) (fun c107 => ?_) (fun c107 => ?_)
                        · have c107 : j < h := (nI_ltI (a := j) (b := h) (by first | omega | exact Nat.lt_of_le_of_lt Nat.and_le_right (by decide) | exact Nat.lt_trans (nm_lt _ _) (by decide) | exact Nat.lt_trans (np_lt _ _) (by decide)) (by first | omega | exact Nat.lt_of_le_of_lt Nat.and_le_right (by decide) | exact Nat.lt_trans (nm_lt _ _) (by decide) | exact Nat.lt_trans (np_lt _ _) (by decide))).mp c107
                          refine lv_iinc (v := nI (j + 1)) (lv' := [(4, .int (nI (j + 1))), (0, .int (nI (2 * h))), (1, .int (nI h)), (2, .ref kn), (3, .int (nI i))]) hx hb dX2_addProductsBelow_132 hl (k := 4) rfl (nI_add _ 1) (by decide) rfl (fun ls hl => ?_)
                          refine lv_goto (tgt := 16) hx hb dX2_addProductsBelow_135 (by decide) ?_
                          exact ih16 (j + 1) g2 _ _ ls (by first | assumption | omega) (by first | exact n_tb1_skip hg2 (by omega) (by omega) | exact n_tb1_put hg2 (by omega) (by omega) (by rw [show 16 * (i - h) + j - h = 16 * (i - h) + (j - h) by omega, hg2 (i - h) (j - h) (by omega)]; exact (n_tA hH (by omega) (by omega) (by omega) (by omega)).2.symm) | exact n_tb1_put hg2 (by omega) (by omega) (by rw [hg2 (i - h) j (by omega)]; exact (n_tB hH (by omega) (by omega) (by omega)).symm) | exact n_tb1_put hg2 (by omega) (by omega) (by rw [show 16 * i + j - h = 16 * i + (j - h) by omega, hg2 i (j - h) (by omega)]; exact (n_tC hH (by omega) (by omega) (by omega)).symm)) (by omega) hP hD hS (lv_sub hl [1, 2, 3, 4, 0] rfl)
                        · have c107 : ¬ (j < h) := fun q => c107 ((nI_ltI (a := j) (b := h) (by first | omega | exact Nat.lt_of_le_of_lt Nat.and_le_right (by decide) | exact Nat.lt_trans (nm_lt _ _) (by decide) | exact Nat.lt_trans (np_lt _ _) (by decide)) (by first | omega | exact Nat.lt_of_le_of_lt Nat.and_le_right (by decide) | exact Nat.lt_trans (nm_lt _ _) (by decide) | exact Nat.lt_trans (np_lt _ _) (by decide))).mpr q)
                          refine lv_aload_n hx hb dX2_addProductsBelow_110 rfl (lv_at hl 2 rfl) ?_
                          refine lv_bipush (v := nI 16) hx hb dX2_addProductsBelow_111 (by decide) ?_
                          refine lv_iload_n hx hb dX2_addProductsBelow_113 rfl (lv_at hl 3 rfl) ?_
                          refine lv_imul hx hb dX2_addProductsBelow_114 ?_
                          refine lv_topi (nm_r (pk_mul _ _) ?_)
                          refine lv_iload hx hb dX2_addProductsBelow_115 (lv_at hl 4 rfl) ?_
                          refine lv_iadd hx hb dX2_addProductsBelow_117 ?_
                          refine lv_topi (nm_r (nI_add _ _) ?_)
                          refine lv_aload_n hx hb dX2_addProductsBelow_118 rfl (lv_at hl 2 rfl) ?_
                          refine lv_bipush (v := nI 16) hx hb dX2_addProductsBelow_119 (by decide) ?_
                          refine lv_iload_n hx hb dX2_addProductsBelow_121 rfl (lv_at hl 3 rfl) ?_
                          refine lv_imul hx hb dX2_addProductsBelow_122 ?_
                          refine lv_topi (nm_r (pk_mul _ _) ?_)
                          refine lv_iload hx hb dX2_addProductsBelow_123 (lv_at hl 4 rfl) ?_
                          refine lv_iadd hx hb dX2_addProductsBelow_125 ?_
                          refine lv_topi (nm_r (nI_add _ _) ?_)
                          refine lv_iload_n hx hb dX2_addProductsBelow_126 rfl (lv_at hl 1 rfl) ?_
                          refine lv_isub hx hb dX2_addProductsBelow_127 ?_
                          refine lv_topi (nm_r (pk_sub (by omega)) ?_)
                          refine va_iald hx hb hK hP 0 0 rfl rfl (m_in (n := ((16 * i) + j) - h) (by first | assumption | omega) (by decide)) dX2_addProductsBelow_128 ?_
                          refine lv_topi (nm_r (m_ldn (g := g2) (n := ((16 * i) + j) - h) (by omega)) ?_)
                          refine lv_iload_n hx hb dX2_addProductsBelow_129 rfl (lv_at hl 1 rfl) ?_
                          refine lv_ishl hx hb dX2_addProductsBelow_130 ?_
                          refine lv_topi (nm_r (m_shl _ _ (by omega)) ?_)
                          refine va_iast hx hb hK hP hD hS 0 0 rfl rfl (m_in (n := (16 * i) + j) (by first | assumption | omega) (by decide)) dX2_addProductsBelow_131 (fun H5 locs hP hD hS => ?_)
                          have hP : va_P D vwCl [(kn, .inl (cY 0, 256, .inl (upd (m_nf g2) (nI ((16 * i) + j)).toNatClampNeg (nI ((g2 (((16 * i) + j) - h)) <<< h)))))] H5 := hP
                          have hD : va_D A [(kn, .inl (cY 0, 256, .inl (upd (m_nf g2) (nI ((16 * i) + j)).toNatClampNeg (nI ((g2 (((16 * i) + j) - h)) <<< h)))))] := hD
                          rw [m_upd (g := g2) (n := (16 * i) + j) (v := (g2 (((16 * i) + j) - h)) <<< h) (by omega)] at hP hD
                          have hP : va_P D vwCl [(kn, .inl (cY 0, 256, .inl (m_nf (m_up g2 ((16 * i) + j) ((g2 (((16 * i) + j) - h)) <<< h)))))] H5 := hP
                          have hD : va_D A [(kn, .inl (cY 0, 256, .inl (m_nf (m_up g2 ((16 * i) + j) ((g2 (((16 * i) + j) - h)) <<< h)))))] := hD
                          refine lv_iinc (v := nI (j + 1)) (lv' := [(4, .int (nI (j + 1))), (0, .int (nI (2 * h))), (1, .int (nI h)), (2, .ref kn), (3, .int (nI i))]) hx hb dX2_addProductsBelow_132 hl (k := 4) rfl (nI_add _ 1) (by decide) rfl (fun ls hl => ?_)
                          refine lv_goto (tgt := 16) hx hb dX2_addProductsBelow_135 (by decide) ?_
                          exact ih16 (j + 1) (m_up g2 ((16 * i) + j) ((g2 (((16 * i) + j) - h)) <<< h)) _ _ ls (by first | assumption | omega) (by first | exact n_tb1_skip hg2 (by omega) (by omega) | exact n_tb1_put hg2 (by omega) (by omega) (by rw [show 16 * (i - h) + j - h = 16 * (i - h) + (j - h) by omega, hg2 (i - h) (j - h) (by omega)]; exact (n_tA hH (by omega) (by omega) (by omega) (by omega)).2.symm) | exact n_tb1_put hg2 (by omega) (by omega) (by rw [hg2 (i - h) j (by omega)]; exact (n_tB hH (by omega) (by omega) (by omega)).symm) | exact n_tb1_put hg2 (by omega) (by omega) (by rw [show 16 * i + j - h = 16 * i + (j - h) by omega, hg2 i (j - h) (by omega)]; exact (n_tC hH (by omega) (by omega) (by omega)).symm)) (by omega) hP hD hS (lv_sub hl [1, 2, 3, 4, 0] rfl)
                      · have c76 : ¬ (i < h) := fun q => c76 ((nI_ltI (a := i) (b := h) (by first | omega | exact Nat.lt_of_le_of_lt Nat.and_le_right (by decide) | exact Nat.lt_trans (nm_lt _ _) (by decide) | exact Nat.lt_trans (np_lt _ _) (by decide)) (by first | omega | exact Nat.lt_of_le_of_lt Nat.and_le_right (by decide) | exact Nat.lt_trans (nm_lt _ _) (by decide) | exact Nat.lt_trans (np_lt _ _) (by decide))).mpr q)
                        refine lv_aload_n hx hb dX2_addProductsBelow_79 rfl (lv_at hl 2 rfl) ?_
                        refine lv_bipush (v := nI 16) hx hb dX2_addProductsBelow_80 (by decide) ?_
                        refine lv_iload_n hx hb dX2_addProductsBelow_82 rfl (lv_at hl 3 rfl) ?_
                        refine lv_imul hx hb dX2_addProductsBelow_83 ?_
                        refine lv_topi (nm_r (pk_mul _ _) ?_)
                        refine lv_iload hx hb dX2_addProductsBelow_84 (lv_at hl 4 rfl) ?_
                        refine lv_iadd hx hb dX2_addProductsBelow_86 ?_
                        refine lv_topi (nm_r (nI_add _ _) ?_)
                        refine lv_aload_n hx hb dX2_addProductsBelow_87 rfl (lv_at hl 2 rfl) ?_
                        refine lv_bipush (v := nI 16) hx hb dX2_addProductsBelow_88 (by decide) ?_
                        refine lv_iload_n hx hb dX2_addProductsBelow_90 rfl (lv_at hl 3 rfl) ?_
                        refine lv_iload_n hx hb dX2_addProductsBelow_91 rfl (lv_at hl 1 rfl) ?_
                        refine lv_isub hx hb dX2_addProductsBelow_92 ?_
                        refine lv_topi (nm_r (pk_sub (by omega)) ?_)
                        refine lv_imul hx hb dX2_addProductsBelow_93 ?_
                        refine lv_topi (nm_r (pk_mul _ _) ?_)
                        refine lv_iload hx hb dX2_addProductsBelow_94 (lv_at hl 4 rfl) ?_
                        refine lv_iadd hx hb dX2_addProductsBelow_96 ?_
                        refine lv_topi (nm_r (nI_add _ _) ?_)
                        refine va_iald hx hb hK hP 0 0 rfl rfl (m_in (n := (16 * (i - h)) + j) (by first | assumption | omega) (by decide)) dX2_addProductsBelow_97 ?_
                        refine lv_topi (nm_r (m_ldn (g := g2) (n := (16 * (i - h)) + j) (by omega)) ?_)
                        refine lv_iload_n hx hb dX2_addProductsBelow_98 rfl (lv_at hl 1 rfl) ?_
                        refine lv_ishl hx hb dX2_addProductsBelow_99 ?_
                        refine lv_topi (nm_r (m_shl _ _ (by omega)) ?_)
                        refine va_iast hx hb hK hP hD hS 0 0 rfl rfl (m_in (n := (16 * i) + j) (by first | assumption | omega) (by decide)) dX2_addProductsBelow_100 (fun H6 locs hP hD hS => ?_)
                        have hP : va_P D vwCl [(kn, .inl (cY 0, 256, .inl (upd (m_nf g2) (nI ((16 * i) + j)).toNatClampNeg (nI ((g2 ((16 * (i - h)) + j)) <<< h)))))] H6 := hP
                        have hD : va_D A [(kn, .inl (cY 0, 256, .inl (upd (m_nf g2) (nI ((16 * i) + j)).toNatClampNeg (nI ((g2 ((16 * (i - h)) + j)) <<< h)))))] := hD
                        rw [m_upd (g := g2) (n := (16 * i) + j) (v := (g2 ((16 * (i - h)) + j)) <<< h) (by omega)] at hP hD
                        have hP : va_P D vwCl [(kn, .inl (cY 0, 256, .inl (m_nf (m_up g2 ((16 * i) + j) ((g2 ((16 * (i - h)) + j)) <<< h)))))] H6 := hP
                        have hD : va_D A [(kn, .inl (cY 0, 256, .inl (m_nf (m_up g2 ((16 * i) + j) ((g2 ((16 * (i - h)) + j)) <<< h)))))] := hD
                        refine lv_goto (tgt := 132) hx hb dX2_addProductsBelow_101 (by decide) ?_
                        refine lv_iinc (v := nI (j + 1)) (lv' := [(4, .int (nI (j + 1))), (0, .int (nI (2 * h))), (1, .int (nI h)), (2, .ref kn), (3, .int (nI i))]) hx hb dX2_addProductsBelow_132 hl (k := 4) rfl (nI_add _ 1) (by decide) rfl (fun ls hl => ?_)
                        refine lv_goto (tgt := 16) hx hb dX2_addProductsBelow_135 (by decide) ?_
                        exact ih16 (j + 1) (m_up g2 ((16 * i) + j) ((g2 ((16 * (i - h)) + j)) <<< h)) _ _ ls (by first | assumption | omega) (by first | exact n_tb1_skip hg2 (by omega) (by omega) | exact n_tb1_put hg2 (by omega) (by omega) (by rw [show 16 * (i - h) + j - h = 16 * (i - h) + (j - h) by omega, hg2 (i - h) (j - h) (by omega)]; exact (n_tA hH (by omega) (by omega) (by omega) (by omega)).2.symm) | exact n_tb1_put hg2 (by omega) (by omega) (by rw [hg2 (i - h) j (by omega)]; exact (n_tB hH (by omega) (by omega) (by omega)).symm) | exact n_tb1_put hg2 (by omega) (by omega) (by rw [show 16 * i + j - h = 16 * i + (j - h) by omega, hg2 i (j - h) (by omega)]; exact (n_tC hH (by omega) (by omega) (by omega)).symm)) (by omega) hP hD hS (lv_sub hl [1, 2, 3, 4, 0] rfl)
                    · have c37 : ¬ (j < h) := fun q => c37 ((nI_ltI (a := j) (b := h) (by first | omega | exact Nat.lt_of_le_of_lt Nat.and_le_right (by decide) | exact Nat.lt_trans (nm_lt _ _) (by decide) | exact Nat.lt_trans (np_lt _ _) (by decide)) (by first | omega | exact Nat.lt_of_le_of_lt Nat.and_le_right (by decide) | exact Nat.lt_trans (nm_lt _ _) (by decide) | exact Nat.lt_trans (np_lt _ _) (by decide))).mpr q)
                      refine lv_aload_n hx hb dX2_addProductsBelow_40 rfl (lv_at hl 2 rfl) ?_
                      refine lv_bipush (v := nI 16) hx hb dX2_addProductsBelow_41 (by decide) ?_
                      refine lv_iload_n hx hb dX2_addProductsBelow_43 rfl (lv_at hl 3 rfl) ?_
                      refine lv_iload_n hx hb dX2_addProductsBelow_44 rfl (lv_at hl 1 rfl) ?_
                      refine lv_isub hx hb dX2_addProductsBelow_45 ?_
                      refine lv_topi (nm_r (pk_sub (by omega)) ?_)
                      refine lv_imul hx hb dX2_addProductsBelow_46 ?_
                      refine lv_topi (nm_r (pk_mul _ _) ?_)
                      refine lv_iload hx hb dX2_addProductsBelow_47 (lv_at hl 4 rfl) ?_
                      refine lv_iadd hx hb dX2_addProductsBelow_49 ?_
                      refine lv_topi (nm_r (nI_add _ _) ?_)
                      refine lv_iload_n hx hb dX2_addProductsBelow_50 rfl (lv_at hl 1 rfl) ?_
                      refine lv_isub hx hb dX2_addProductsBelow_51 ?_
                      refine lv_topi (nm_r (pk_sub (by omega)) ?_)
                      refine va_iald hx hb hK hP 0 0 rfl rfl (m_in (n := ((16 * (i - h)) + j) - h) (by first | assumption | omega) (by decide)) dX2_addProductsBelow_52 ?_
                      refine lv_topi (nm_r (m_ldn (g := g2) (n := ((16 * (i - h)) + j) - h) (by omega)) ?_)
                      refine lv_istore (lv' := [(5, .int (nI (g2 (((16 * (i - h)) + j) - h)))), (0, .int (nI (2 * h))), (1, .int (nI h)), (2, .ref kn), (3, .int (nI i)), (4, .int (nI j))]) hx hb dX2_addProductsBelow_53 hl (by decide) rfl (fun ls hl => ?_)
                      refine lv_aload_n hx hb dX2_addProductsBelow_55 rfl (lv_at hl 3 rfl) ?_
                      refine lv_bipush (v := nI 16) hx hb dX2_addProductsBelow_56 (by decide) ?_
                      refine lv_iload_n hx hb dX2_addProductsBelow_58 rfl (lv_at hl 4 rfl) ?_
                      refine lv_imul hx hb dX2_addProductsBelow_59 ?_
                      refine lv_topi (nm_r (pk_mul _ _) ?_)
                      refine lv_iload hx hb dX2_addProductsBelow_60 (lv_at hl 5 rfl) ?_
                      refine lv_iadd hx hb dX2_addProductsBelow_62 ?_
                      refine lv_topi (nm_r (nI_add _ _) ?_)
                      refine lv_iload hx hb dX2_addProductsBelow_63 (lv_at hl 0 rfl) ?_
                      refine lv_iload_n hx hb dX2_addProductsBelow_65 rfl (lv_at hl 2 rfl) ?_
                      refine lv_aload_n hx hb dX2_addProductsBelow_66 rfl (lv_at hl 3 rfl) ?_
                      refine m_callSi (As := [.int (nI (g2 (((16 * (i - h)) + j) - h))), .int (nI h), .ref kn]) (rest := [.int (nI ((16 * i) + j)), .ref kn]) C0 hl hP hD hS (c_X2_timesSquareOfPower l D cY kn (g2 (((16 * (i - h)) + j) - h)) h g2 (by first | assumption | omega | exact nm_lt _ _ | exact np_lt _ _ | decide) (by rw [show 16 * (i - h) + j - h = 16 * (i - h) + (j - h) by omega, hg2 (i - h) (j - h) (by omega)]; exact (n_tA hH (by omega) (by omega) (by omega) (by omega)).1) (fun a b ha hb => hg2 a b (by omega))) (va_cwS 3 hts gX2_addProductsBelow_X2_timesSquareOfPower rfl rfl rfl (by decide +kernel) ⟨Nat.le_of_ble_eq_true rfl, Nat.le_of_ble_eq_true rfl⟩) dX2_addProductsBelow_67 [0] rfl rfl rfl (Nat.le_of_ble_eq_true rfl) (Nat.zero_le _) (Nat.zero_le _) (fun _ => rfl) (fun r8 u H7 locs hw hP hD hS => ?_)
                      try dsimp only at hw
                      obtain rfl := hw
                      have hP : va_P D vwCl [(kn, .inl (cY 0, 256, .inl (m_nf g2)))] H7 := hP
                      have hD : va_D A [(kn, .inl (cY 0, 256, .inl (m_nf g2)))] := hD
                      refine va_iast hx hb hK hP hD hS 0 0 rfl rfl (m_in (n := (16 * i) + j) (by first | assumption | omega) (by decide)) dX2_addProductsBelow_70 (fun H9 locs hP hD hS => ?_)
                      have hP : va_P D vwCl [(kn, .inl (cY 0, 256, .inl (upd (m_nf g2) (nI ((16 * i) + j)).toNatClampNeg (nI (((g2 (((16 * (i - h)) + j) - h)) <<< h) ^^^ nm (g2 (((16 * (i - h)) + j) - h)) (2 ^ (h - 1)))))))] H9 := hP
                      have hD : va_D A [(kn, .inl (cY 0, 256, .inl (upd (m_nf g2) (nI ((16 * i) + j)).toNatClampNeg (nI (((g2 (((16 * (i - h)) + j) - h)) <<< h) ^^^ nm (g2 (((16 * (i - h)) + j) - h)) (2 ^ (h - 1)))))))] := hD
                      rw [m_upd (g := g2) (n := (16 * i) + j) (v := ((g2 (((16 * (i - h)) + j) - h)) <<< h) ^^^ nm (g2 (((16 * (i - h)) + j) - h)) (2 ^ (h - 1))) (by omega)] at hP hD
                      have hP : va_P D vwCl [(kn, .inl (cY 0, 256, .inl (m_nf (m_up g2 ((16 * i) + j) (((g2 (((16 * (i - h)) + j) - h)) <<< h) ^^^ nm (g2 (((16 * (i - h)) + j) - h)) (2 ^ (h - 1)))))))] H9 := hP
                      have hD : va_D A [(kn, .inl (cY 0, 256, .inl (m_nf (m_up g2 ((16 * i) + j) (((g2 (((16 * (i - h)) + j) - h)) <<< h) ^^^ nm (g2 (((16 * (i - h)) + j) - h)) (2 ^ (h - 1)))))))] := hD
                      refine lv_goto (tgt := 132) hx hb dX2_addProductsBelow_71 (by decide) ?_
                      refine lv_iinc (v := nI (j + 1)) (lv' := [(4, .int (nI (j + 1))), (5, .int (nI (g2 (((16 * (i - h)) + j) - h)))), (0, .int (nI (2 * h))), (1, .int (nI h)), (2, .ref kn), (3, .int (nI i))]) hx hb dX2_addProductsBelow_132 hl (k := 5) rfl (nI_add _ 1) (by decide) rfl (fun ls hl => ?_)
                      refine lv_goto (tgt := 16) hx hb dX2_addProductsBelow_135 (by decide) ?_
                      exact ih16 (j + 1) (m_up g2 ((16 * i) + j) (((g2 (((16 * (i - h)) + j) - h)) <<< h) ^^^ nm (g2 (((16 * (i - h)) + j) - h)) (2 ^ (h - 1)))) _ _ ls (by first | assumption | omega) (by first | exact n_tb1_skip hg2 (by omega) (by omega) | exact n_tb1_put hg2 (by omega) (by omega) (by rw [show 16 * (i - h) + j - h = 16 * (i - h) + (j - h) by omega, hg2 (i - h) (j - h) (by omega)]; exact (n_tA hH (by omega) (by omega) (by omega) (by omega)).2.symm) | exact n_tb1_put hg2 (by omega) (by omega) (by rw [hg2 (i - h) j (by omega)]; exact (n_tB hH (by omega) (by omega) (by omega)).symm) | exact n_tb1_put hg2 (by omega) (by omega) (by rw [show 16 * i + j - h = 16 * i + (j - h) by omega, hg2 i (j - h) (by omega)]; exact (n_tC hH (by omega) (by omega) (by omega)).symm)) (by omega) hP hD hS (lv_sub hl [2, 3, 4, 5, 0] rfl)
          exact lp16_2 _ 0 g _ _ ls (by first | assumption | omega) (hg) (Nat.lt_succ_self _) hP hD hS (lv_sub hl [1, 2, 3, 4, 0] rfl)
  exact lp2_1 _ 0 f _ _ ls (by first | assumption | omega) (n_tb1_0 hf) (Nat.lt_succ_self _) hP hD hS (lv_sub hl [1, 2, 3, 0] rfl)
