set_option maxHeartbeats 4000000 in
set_option maxRecDepth 100000 in
theorem c_X2_times (l : Launch) (D : va_G) (cY : Nat → ClassId) (a b : Nat) (bp : Nat → Nat) (x y : Nat) (hxx : x < 65536) (hyy : y < 65536) (hB : n_bp bp) : m_Mi l yX2_times wsX2_times 0 0 D cY [.ref a, .int (nI x), .int (nI y)] [(a, .inr (2, [.ref b])), (b, .inl (cY 0, 256, .inl (m_nf bp)))] (fun (res : Int32) (u : Unit) => res = nI (nm x y)) (fun (u : Unit) => [(a, .inr (2, [.ref b])), (b, .inl (cY 0, 256, .inl (m_nf bp)))]) := by
  refine m_enterI (cc := cX2_times) (maxL := 6) (ret := (some .int)) (by decide +kernel) rfl (Nat.le_of_ble_eq_true rfl) ?_
  intro p e s m below meth c A ls C0 hP hD hl
  obtain ⟨hx, hb, hr, hml, hts, hown, hlocks, hK, hA⟩ := id C0
  generalize hQ : MQ below _ _ s 0 0 A = Q
  have hS : va_S A s.heap s.heap [] := va_S.rf
  have hl : lv_has ls 6 [(0, .ref a), (1, .int (nI x)), (2, .int (nI y))] := hl
  have hw0 := hts (.fieldLink RX2 15 "NimberField$Nimbers" "bitProducts" "[I") (by decide +kernel)
  have hw1 := (show ∀ w ∈ u_ws RX2 TX2 1, w ∈ wsX2_times from by decide +kernel)
  refine lv_iconst (v := nI 0) hx hb dX2_times_0 (by decide) ?_
  refine lv_istore_n (lv' := [(3, .int (nI 0)), (0, .ref a), (1, .int (nI x)), (2, .int (nI y))]) hx hb dX2_times_1 rfl hl (by decide) rfl (fun ls hl => ?_)
  refine lv_iconst (v := nI 0) hx hb dX2_times_2 (by decide) ?_
  refine lv_istore (lv' := [(4, .int (nI 0)), (3, .int (nI 0)), (0, .ref a), (1, .int (nI x)), (2, .int (nI y))]) hx hb dX2_times_3 hl (by decide) rfl (fun ls hl => ?_)
  have lp5_1 : ∀ (nn : Nat) (i : Nat) (z : Nat) (H : Heap) (locs : List Loc) (ls : Array Slot), (i ≤ 16) → (z = nm (x % 2 ^ i) y) → 16 - i < nn → va_P D vwCl [(a, .inr (2, [.ref b])), (b, .inl (cY 0, 256, .inl (m_nf bp)))] H → va_D A [(a, .inr (2, [.ref b])), (b, .inl (cY 0, 256, .inl (m_nf bp)))] → va_S A s.heap H locs → lv_has ls 6 [(0, .ref a), (1, .int (nI x)), (2, .int (nI y)), (3, .int (nI z)), (4, .int (nI i))] → W p l e { frames := 0, cells := 0, slots := 0, locals := 0 } s m ([.ref a, .int (nI x), .int (nI y)] : List Value).toArray below meth c H locs 0 0 Q (F0 m 5 ls []) := by
    intro nn
    induction nn with
    | zero => intros; omega
    | succ nn ih5 =>
      intro i z H locs ls hi hz hmz hP hD hS hl
      refine lv_iload hx hb dX2_times_5 (lv_at hl 4 rfl) ?_
      refine lv_bipush (v := nI 16) hx hb dX2_times_7 (by decide) ?_
      refine lv_icmp_ge (tgt := 70) hx hb dX2_times_9 (by decide) (fun c9 => ?_) (fun c9 => ?_)
      · have c9 : 16 ≤ i := (nI_leI (a := 16) (b := i) (by first | omega | exact Nat.lt_of_le_of_lt Nat.and_le_right (by decide) | exact Nat.lt_trans (nm_lt _ _) (by decide) | exact Nat.lt_trans (np_lt _ _) (by decide)) (by first | omega | exact Nat.lt_of_le_of_lt Nat.and_le_right (by decide) | exact Nat.lt_trans (nm_lt _ _) (by decide) | exact Nat.lt_trans (np_lt _ _) (by decide))).mp c9
        refine lv_iload_n hx hb dX2_times_70 rfl (lv_at hl 3 rfl) ?_
        subst hQ
        exact m_iret C0 hS dX2_times_71 (u := ()) hP (by rw [hz, show i = 16 by omega, nm_m16])
      · have c9 : ¬ (16 ≤ i) := fun q => c9 ((nI_leI (a := 16) (b := i) (by first | omega | exact Nat.lt_of_le_of_lt Nat.and_le_right (by decide) | exact Nat.lt_trans (nm_lt _ _) (by decide) | exact Nat.lt_trans (np_lt _ _) (by decide)) (by first | omega | exact Nat.lt_of_le_of_lt Nat.and_le_right (by decide) | exact Nat.lt_trans (nm_lt _ _) (by decide) | exact Nat.lt_trans (np_lt _ _) (by decide))).mpr q)
        refine lv_iload_n hx hb dX2_times_12 rfl (lv_at hl 1 rfl) ?_
        refine lv_iload hx hb dX2_times_13 (lv_at hl 4 rfl) ?_
        refine lv_ishr hx hb dX2_times_15 ?_
        refine lv_topi (nm_r (m_shr _ _ (by omega) (by omega)) ?_)
        refine lv_iconst (v := nI 1) hx hb dX2_times_16 (by decide) ?_
        refine lv_iand hx hb dX2_times_17 ?_
        refine lv_topi (nm_r (nx_and _ _) ?_)
        refine lv_iconst (v := nI 1) hx hb dX2_times_18 (by decide) ?_
        refine lv_icmp_ne (tgt := 64) hx hb dX2_times_19 (by decide) (fun c19 => ?_) (fun c19 => ?_)
        · have c19 : ¬ (((x >>> i) &&& 1) = 1) := fun q => c19 ((nI_eq (a := ((x >>> i) &&& 1)) (b := 1) (by first | omega | exact Nat.lt_of_le_of_lt Nat.and_le_right (by decide) | exact Nat.lt_trans (nm_lt _ _) (by decide) | exact Nat.lt_trans (np_lt _ _) (by decide)) (by first | omega | exact Nat.lt_of_le_of_lt Nat.and_le_right (by decide) | exact Nat.lt_trans (nm_lt _ _) (by decide) | exact Nat.lt_trans (np_lt _ _) (by decide))).mpr q)
          refine lv_iinc (v := nI (i + 1)) (lv' := [(4, .int (nI (i + 1))), (0, .ref a), (1, .int (nI x)), (2, .int (nI y)), (3, .int (nI z))]) hx hb dX2_times_64 hl (k := 4) rfl (nI_add _ 1) (by decide) rfl (fun ls hl => ?_)
          refine lv_goto (tgt := 5) hx hb dX2_times_67 (by decide) ?_
          exact ih5 (i + 1) z _ _ ls (by first | assumption | omega) (by first | (rw [n_bitl, if_neg (fun q => c19 ((n_tb x i).mpr q)), Nat.xor_zero]; exact hz) | (rw [n_bitl, if_pos ((n_tb x i).mp c19), ← hz, hz2, show j = 16 by omega, nm_m16r])) (by omega) hP hD hS (lv_sub hl [1, 2, 3, 4, 0] rfl)
        · have c19 : ((x >>> i) &&& 1) = 1 := (nI_eq (a := ((x >>> i) &&& 1)) (b := 1) (by first | omega | exact Nat.lt_of_le_of_lt Nat.and_le_right (by decide) | exact Nat.lt_trans (nm_lt _ _) (by decide) | exact Nat.lt_trans (np_lt _ _) (by decide)) (by first | omega | exact Nat.lt_of_le_of_lt Nat.and_le_right (by decide) | exact Nat.lt_trans (nm_lt _ _) (by decide) | exact Nat.lt_trans (np_lt _ _) (by decide))).mp c19
          refine lv_iconst (v := nI 0) hx hb dX2_times_22 (by decide) ?_
          refine lv_istore (lv' := [(5, .int (nI 0)), (0, .ref a), (1, .int (nI x)), (2, .int (nI y)), (3, .int (nI z)), (4, .int (nI i))]) hx hb dX2_times_23 hl (by decide) rfl (fun ls hl => ?_)
          have lp25_2 : ∀ (nn : Nat) (j : Nat) (z2 : Nat) (H : Heap) (locs : List Loc) (ls : Array Slot), (j ≤ 16) → (z2 = z ^^^ nm (2 ^ i) (y % 2 ^ j)) → 16 - j < nn → va_P D vwCl [(a, .inr (2, [.ref b])), (b, .inl (cY 0, 256, .inl (m_nf bp)))] H → va_D A [(a, .inr (2, [.ref b])), (b, .inl (cY 0, 256, .inl (m_nf bp)))] → va_S A s.heap H locs → lv_has ls 6 [(0, .ref a), (1, .int (nI x)), (2, .int (nI y)), (3, .int (nI z2)), (4, .int (nI i)), (5, .int (nI j))] → W p l e { frames := 0, cells := 0, slots := 0, locals := 0 } s m ([.ref a, .int (nI x), .int (nI y)] : List Value).toArray below meth c H locs 0 0 Q (F0 m 25 ls []) := by
            intro nn
            induction nn with
            | zero => intros; omega
            | succ nn ih25 =>
              intro j z2 H locs ls hj hz2 hmz hP hD hS hl
              refine lv_iload hx hb dX2_times_25 (lv_at hl 5 rfl) ?_
              refine lv_bipush (v := nI 16) hx hb dX2_times_27 (by decide) ?_
              refine lv_icmp_ge (tgt := 64) hx hb dX2_times_29 (by decide) (fun c29 => ?_) (fun c29 => ?_)
              · have c29 : 16 ≤ j := (nI_leI (a := 16) (b := j) (by first | omega | exact Nat.lt_of_le_of_lt Nat.and_le_right (by decide) | exact Nat.lt_trans (nm_lt _ _) (by decide) | exact Nat.lt_trans (np_lt _ _) (by decide)) (by first | omega | exact Nat.lt_of_le_of_lt Nat.and_le_right (by decide) | exact Nat.lt_trans (nm_lt _ _) (by decide) | exact Nat.lt_trans (np_lt _ _) (by decide))).mp c29
                refine lv_iinc (v := nI (i + 1)) (lv' := [(4, .int (nI (i + 1))), (0, .ref a), (1, .int (nI x)), (2, .int (nI y)), (3, .int (nI z2)), (5, .int (nI j))]) hx hb dX2_times_64 hl (k := 4) rfl (nI_add _ 1) (by decide) rfl (fun ls hl => ?_)
                refine lv_goto (tgt := 5) hx hb dX2_times_67 (by decide) ?_
                exact ih5 (i + 1) z2 _ _ ls (by first | assumption | omega) (by first | (rw [n_bitl, if_neg (fun q => c19 ((n_tb x i).mpr q)), Nat.xor_zero]; exact hz) | (rw [n_bitl, if_pos ((n_tb x i).mp c19), ← hz, hz2, show j = 16 by omega, nm_m16r])) (by omega) hP hD hS (lv_sub hl [1, 2, 3, 4, 0] rfl)
              · have c29 : ¬ (16 ≤ j) := fun q => c29 ((nI_leI (a := 16) (b := j) (by first | omega | exact Nat.lt_of_le_of_lt Nat.and_le_right (by decide) | exact Nat.lt_trans (nm_lt _ _) (by decide) | exact Nat.lt_trans (np_lt _ _) (by decide)) (by first | omega | exact Nat.lt_of_le_of_lt Nat.and_le_right (by decide) | exact Nat.lt_trans (nm_lt _ _) (by decide) | exact Nat.lt_trans (np_lt _ _) (by decide))).mpr q)
                refine lv_iload_n hx hb dX2_times_32 rfl (lv_at hl 2 rfl) ?_
                refine lv_iload hx hb dX2_times_33 (lv_at hl 5 rfl) ?_
                refine lv_ishr hx hb dX2_times_35 ?_
                refine lv_topi (nm_r (m_shr _ _ (by omega) (by omega)) ?_)
                refine lv_iconst (v := nI 1) hx hb dX2_times_36 (by decide) ?_
                refine lv_iand hx hb dX2_times_37 ?_
                refine lv_topi (nm_r (nx_and _ _) ?_)
                refine lv_iconst (v := nI 1) hx hb dX2_times_38 (by decide) ?_
                refine lv_icmp_ne (tgt := 58) hx hb dX2_times_39 (by decide) (fun c39 => ?_) (fun c39 => ?_)
                · have c39 : ¬ (((y >>> j) &&& 1) = 1) := fun q => c39 ((nI_eq (a := ((y >>> j) &&& 1)) (b := 1) (by first | omega | exact Nat.lt_of_le_of_lt Nat.and_le_right (by decide) | exact Nat.lt_trans (nm_lt _ _) (by decide) | exact Nat.lt_trans (np_lt _ _) (by decide)) (by first | omega | exact Nat.lt_of_le_of_lt Nat.and_le_right (by decide) | exact Nat.lt_trans (nm_lt _ _) (by decide) | exact Nat.lt_trans (np_lt _ _) (by decide))).mpr q)
                  refine lv_iinc (v := nI (j + 1)) (lv' := [(5, .int (nI (j + 1))), (0, .ref a), (1, .int (nI x)), (2, .int (nI y)), (3, .int (nI z2)), (4, .int (nI i))]) hx hb dX2_times_58 hl (k := 5) rfl (nI_add _ 1) (by decide) rfl (fun ls hl => ?_)
                  refine lv_goto (tgt := 25) hx hb dX2_times_61 (by decide) ?_
                  exact ih25 (j + 1) z2 _ _ ls (by first | assumption | omega) (by first | (rw [n_bitr, if_neg (fun q => c39 ((n_tb y j).mpr q)), Nat.xor_zero]; exact hz2) | (rw [n_bitr, if_pos ((n_tb y j).mp c39), hz2, hB i j (by omega) (by omega), Nat.xor_assoc])) (by omega) hP hD hS (lv_sub hl [1, 2, 3, 4, 5, 0] rfl)
                · have c39 : ((y >>> j) &&& 1) = 1 := (nI_eq (a := ((y >>> j) &&& 1)) (b := 1) (by first | omega | exact Nat.lt_of_le_of_lt Nat.and_le_right (by decide) | exact Nat.lt_trans (nm_lt _ _) (by decide) | exact Nat.lt_trans (np_lt _ _) (by decide)) (by first | omega | exact Nat.lt_of_le_of_lt Nat.and_le_right (by decide) | exact Nat.lt_trans (nm_lt _ _) (by decide) | exact Nat.lt_trans (np_lt _ _) (by decide))).mp c39
                  refine lv_iload_n hx hb dX2_times_42 rfl (lv_at hl 3 rfl) ?_
                  refine lv_aload_n hx hb dX2_times_43 rfl (lv_at hl 0 rfl) ?_
                  refine va_get (D := D) (ci := 2) (v := .ref b) (C := RX2) (T := TX2) (N := 1) hx hb hts hw1 hown hK hP 0 rfl rfl 0 (by decide) hw0 (fun _ h9 => h9) rfl dX2_times_44 ?_
                  refine lv_bipush (v := nI 16) hx hb dX2_times_47 (by decide) ?_
                  refine lv_iload hx hb dX2_times_49 (lv_at hl 4 rfl) ?_
                  refine lv_imul hx hb dX2_times_51 ?_
                  refine lv_topi (nm_r (pk_mul _ _) ?_)
                  refine lv_iload hx hb dX2_times_52 (lv_at hl 5 rfl) ?_
                  refine lv_iadd hx hb dX2_times_54 ?_
                  refine lv_topi (nm_r (nI_add _ _) ?_)
                  refine va_iald hx hb hK hP 1 0 rfl rfl (m_in (n := (16 * i) + j) (by first | assumption | omega) (by decide)) dX2_times_55 ?_
                  refine lv_topi (nm_r (m_ldn (g := bp) (n := (16 * i) + j) (by omega)) ?_)
                  refine lv_ixor hx hb dX2_times_56 ?_
                  refine lv_topi (nm_r (nx_xor _ _) ?_)
                  refine lv_istore_n (lv' := [(3, .int (nI (z2 ^^^ (bp ((16 * i) + j))))), (0, .ref a), (1, .int (nI x)), (2, .int (nI y)), (4, .int (nI i)), (5, .int (nI j))]) hx hb dX2_times_57 rfl hl (by decide) rfl (fun ls hl => ?_)
                  refine lv_iinc (v := nI (j + 1)) (lv' := [(5, .int (nI (j + 1))), (3, .int (nI (z2 ^^^ (bp ((16 * i) + j))))), (0, .ref a), (1, .int (nI x)), (2, .int (nI y)), (4, .int (nI i))]) hx hb dX2_times_58 hl (k := 5) rfl (nI_add _ 1) (by decide) rfl (fun ls hl => ?_)
                  refine lv_goto (tgt := 25) hx hb dX2_times_61 (by decide) ?_
                  exact ih25 (j + 1) (z2 ^^^ (bp ((16 * i) + j))) _ _ ls (by first | assumption | omega) (by first | (rw [n_bitr, if_neg (fun q => c39 ((n_tb y j).mpr q)), Nat.xor_zero]; exact hz2) | (rw [n_bitr, if_pos ((n_tb y j).mp c39), hz2, hB i j (by omega) (by omega), Nat.xor_assoc])) (by omega) hP hD hS (lv_sub hl [2, 3, 4, 1, 5, 0] rfl)
          exact lp25_2 _ 0 z _ _ ls (by first | assumption | omega) (by rw [Nat.pow_zero, Nat.mod_one, nm_zero', Nat.xor_zero]) (Nat.lt_succ_self _) hP hD hS (lv_sub hl [1, 2, 3, 4, 5, 0] rfl)
  exact lp5_1 _ 0 0 _ _ ls (by first | assumption | omega) (by rw [Nat.pow_zero, Nat.mod_one, nm_zero]) (Nat.lt_succ_self _) hP hD hS (lv_sub hl [2, 3, 4, 1, 0] rfl)
set_option maxHeartbeats 4000000 in
set_option maxRecDepth 100000 in
theorem c_X2_square (l : Launch) (D : va_G) (cY : Nat → ClassId) (a b : Nat) (bp : Nat → Nat) (x : Nat) (hxx : x < 65536) (hB : n_bp bp) : m_Mi l yX2_square wsX2_square 0 0 D cY [.ref a, .int (nI x)] [(a, .inr (2, [.ref b])), (b, .inl (cY 0, 256, .inl (m_nf bp)))] (fun (res : Int32) (u : Unit) => res = nI (nm x x)) (fun (u : Unit) => [(a, .inr (2, [.ref b])), (b, .inl (cY 0, 256, .inl (m_nf bp)))]) := by
  refine m_enterI (cc := cX2_square) (maxL := 4) (ret := (some .int)) (by decide +kernel) rfl (Nat.le_of_ble_eq_true rfl) ?_
  intro p e s m below meth c A ls C0 hP hD hl
  obtain ⟨hx, hb, hr, hml, hts, hown, hlocks, hK, hA⟩ := id C0
  generalize hQ : MQ below _ _ s 0 0 A = Q
  have hS : va_S A s.heap s.heap [] := va_S.rf
  have hl : lv_has ls 4 [(0, .ref a), (1, .int (nI x))] := hl
  have hw0 := hts (.fieldLink RX2 15 "NimberField$Nimbers" "bitProducts" "[I") (by decide +kernel)
  have hw1 := (show ∀ w ∈ u_ws RX2 TX2 1, w ∈ wsX2_square from by decide +kernel)
  refine lv_iconst (v := nI 0) hx hb dX2_square_0 (by decide) ?_
  refine lv_istore_n (lv' := [(2, .int (nI 0)), (0, .ref a), (1, .int (nI x))]) hx hb dX2_square_1 rfl hl (by decide) rfl (fun ls hl => ?_)
  refine lv_iconst (v := nI 0) hx hb dX2_square_2 (by decide) ?_
  refine lv_istore_n (lv' := [(3, .int (nI 0)), (2, .int (nI 0)), (0, .ref a), (1, .int (nI x))]) hx hb dX2_square_3 rfl hl (by decide) rfl (fun ls hl => ?_)
  have lp4_1 : ∀ (nn : Nat) (i : Nat) (z : Nat) (H : Heap) (locs : List Loc) (ls : Array Slot), (i ≤ 16) → (z = nm (x % 2 ^ i) (x % 2 ^ i)) → 16 - i < nn → va_P D vwCl [(a, .inr (2, [.ref b])), (b, .inl (cY 0, 256, .inl (m_nf bp)))] H → va_D A [(a, .inr (2, [.ref b])), (b, .inl (cY 0, 256, .inl (m_nf bp)))] → va_S A s.heap H locs → lv_has ls 4 [(0, .ref a), (1, .int (nI x)), (2, .int (nI z)), (3, .int (nI i))] → W p l e { frames := 0, cells := 0, slots := 0, locals := 0 } s m ([.ref a, .int (nI x)] : List Value).toArray below meth c H locs 0 0 Q (F0 m 4 ls []) := by
    intro nn
    induction nn with
    | zero => intros; omega
    | succ nn ih4 =>
      intro i z H locs ls hi hz hmz hP hD hS hl
      refine lv_iload_n hx hb dX2_square_4 rfl (lv_at hl 3 rfl) ?_
      refine lv_bipush (v := nI 16) hx hb dX2_square_5 (by decide) ?_
      refine lv_icmp_ge (tgt := 39) hx hb dX2_square_7 (by decide) (fun c7 => ?_) (fun c7 => ?_)
      · have c7 : 16 ≤ i := (nI_leI (a := 16) (b := i) (by first | omega | exact Nat.lt_of_le_of_lt Nat.and_le_right (by decide) | exact Nat.lt_trans (nm_lt _ _) (by decide) | exact Nat.lt_trans (np_lt _ _) (by decide)) (by first | omega | exact Nat.lt_of_le_of_lt Nat.and_le_right (by decide) | exact Nat.lt_trans (nm_lt _ _) (by decide) | exact Nat.lt_trans (np_lt _ _) (by decide))).mp c7
        refine lv_iload_n hx hb dX2_square_39 rfl (lv_at hl 2 rfl) ?_
        subst hQ
        exact m_iret C0 hS dX2_square_40 (u := ()) hP (by rw [hz, show i = 16 by omega, nm_m16, nm_m16r])
      · have c7 : ¬ (16 ≤ i) := fun q => c7 ((nI_leI (a := 16) (b := i) (by first | omega | exact Nat.lt_of_le_of_lt Nat.and_le_right (by decide) | exact Nat.lt_trans (nm_lt _ _) (by decide) | exact Nat.lt_trans (np_lt _ _) (by decide)) (by first | omega | exact Nat.lt_of_le_of_lt Nat.and_le_right (by decide) | exact Nat.lt_trans (nm_lt _ _) (by decide) | exact Nat.lt_trans (np_lt _ _) (by decide))).mpr q)
        refine lv_iload_n hx hb dX2_square_10 rfl (lv_at hl 1 rfl) ?_
        refine lv_iload_n hx hb dX2_square_11 rfl (lv_at hl 3 rfl) ?_
        refine lv_ishr hx hb dX2_square_12 ?_
        refine lv_topi (nm_r (m_shr _ _ (by omega) (by omega)) ?_)
        refine lv_iconst (v := nI 1) hx hb dX2_square_13 (by decide) ?_
        refine lv_iand hx hb dX2_square_14 ?_
        refine lv_topi (nm_r (nx_and _ _) ?_)
        refine lv_iconst (v := nI 1) hx hb dX2_square_15 (by decide) ?_
        refine lv_icmp_ne (tgt := 33) hx hb dX2_square_16 (by decide) (fun c16 => ?_) (fun c16 => ?_)
        · have c16 : ¬ (((x >>> i) &&& 1) = 1) := fun q => c16 ((nI_eq (a := ((x >>> i) &&& 1)) (b := 1) (by first | omega | exact Nat.lt_of_le_of_lt Nat.and_le_right (by decide) | exact Nat.lt_trans (nm_lt _ _) (by decide) | exact Nat.lt_trans (np_lt _ _) (by decide)) (by first | omega | exact Nat.lt_of_le_of_lt Nat.and_le_right (by decide) | exact Nat.lt_trans (nm_lt _ _) (by decide) | exact Nat.lt_trans (np_lt _ _) (by decide))).mpr q)
          refine lv_iinc (v := nI (i + 1)) (lv' := [(3, .int (nI (i + 1))), (0, .ref a), (1, .int (nI x)), (2, .int (nI z))]) hx hb dX2_square_33 hl (k := 3) rfl (nI_add _ 1) (by decide) rfl (fun ls hl => ?_)
          refine lv_goto (tgt := 4) hx hb dX2_square_36 (by decide) ?_
          exact ih4 (i + 1) z _ _ ls (by first | assumption | omega) (by first | (rw [n_bitq, if_neg (fun q => c16 ((n_tb x i).mpr q)), Nat.xor_zero]; exact hz) | (rw [n_bitq, if_pos ((n_tb x i).mp c16), ← hz, hB i i (by omega) (by omega)])) (by omega) hP hD hS (lv_sub hl [1, 2, 3, 0] rfl)
        · have c16 : ((x >>> i) &&& 1) = 1 := (nI_eq (a := ((x >>> i) &&& 1)) (b := 1) (by first | omega | exact Nat.lt_of_le_of_lt Nat.and_le_right (by decide) | exact Nat.lt_trans (nm_lt _ _) (by decide) | exact Nat.lt_trans (np_lt _ _) (by decide)) (by first | omega | exact Nat.lt_of_le_of_lt Nat.and_le_right (by decide) | exact Nat.lt_trans (nm_lt _ _) (by decide) | exact Nat.lt_trans (np_lt _ _) (by decide))).mp c16
          refine lv_iload_n hx hb dX2_square_19 rfl (lv_at hl 2 rfl) ?_
          refine lv_aload_n hx hb dX2_square_20 rfl (lv_at hl 0 rfl) ?_
          refine va_get (D := D) (ci := 2) (v := .ref b) (C := RX2) (T := TX2) (N := 1) hx hb hts hw1 hown hK hP 0 rfl rfl 0 (by decide) hw0 (fun _ h9 => h9) rfl dX2_square_21 ?_
          refine lv_bipush (v := nI 16) hx hb dX2_square_24 (by decide) ?_
          refine lv_iload_n hx hb dX2_square_26 rfl (lv_at hl 3 rfl) ?_
          refine lv_imul hx hb dX2_square_27 ?_
          refine lv_topi (nm_r (pk_mul _ _) ?_)
          refine lv_iload_n hx hb dX2_square_28 rfl (lv_at hl 3 rfl) ?_
          refine lv_iadd hx hb dX2_square_29 ?_
          refine lv_topi (nm_r (nI_add _ _) ?_)
          refine va_iald hx hb hK hP 1 0 rfl rfl (m_in (n := (16 * i) + i) (by first | assumption | omega) (by decide)) dX2_square_30 ?_
          refine lv_topi (nm_r (m_ldn (g := bp) (n := (16 * i) + i) (by omega)) ?_)
          refine lv_ixor hx hb dX2_square_31 ?_
          refine lv_topi (nm_r (nx_xor _ _) ?_)
          refine lv_istore_n (lv' := [(2, .int (nI (z ^^^ (bp ((16 * i) + i))))), (0, .ref a), (1, .int (nI x)), (3, .int (nI i))]) hx hb dX2_square_32 rfl hl (by decide) rfl (fun ls hl => ?_)
          refine lv_iinc (v := nI (i + 1)) (lv' := [(3, .int (nI (i + 1))), (2, .int (nI (z ^^^ (bp ((16 * i) + i))))), (0, .ref a), (1, .int (nI x))]) hx hb dX2_square_33 hl (k := 3) rfl (nI_add _ 1) (by decide) rfl (fun ls hl => ?_)
          refine lv_goto (tgt := 4) hx hb dX2_square_36 (by decide) ?_
          exact ih4 (i + 1) (z ^^^ (bp ((16 * i) + i))) _ _ ls (by first | assumption | omega) (by first | (rw [n_bitq, if_neg (fun q => c16 ((n_tb x i).mpr q)), Nat.xor_zero]; exact hz) | (rw [n_bitq, if_pos ((n_tb x i).mp c16), ← hz, hB i i (by omega) (by omega)])) (by omega) hP hD hS (lv_sub hl [2, 3, 1, 0] rfl)
  exact lp4_1 _ 0 0 _ _ ls (by first | assumption | omega) (by rw [Nat.pow_zero, Nat.mod_one, nm_zero]) (Nat.lt_succ_self _) hP hD hS (lv_sub hl [2, 3, 1, 0] rfl)
set_option maxHeartbeats 4000000 in
set_option maxRecDepth 100000 in
theorem c_X2_raised (l : Launch) (D : va_G) (cY : Nat → ClassId) (a b : Nat) (bp : Nat → Nat) (x ex : Nat) (hxx : x < 65536) (hex : ex < 2 ^ 31) (hB : n_bp bp) : m_Mi l yX2_raised wsX2_raised 1 25 D cY [.ref a, .int (nI x), .int (nI ex)] [(a, .inr (2, [.ref b])), (b, .inl (cY 0, 256, .inl (m_nf bp)))] (fun (res : Int32) (u : Unit) => res = nI (np x ex)) (fun (u : Unit) => [(a, .inr (2, [.ref b])), (b, .inl (cY 0, 256, .inl (m_nf bp)))]) := by
  refine m_enterI (cc := cX2_raised) (maxL := 6) (ret := (some .int)) (by decide +kernel) rfl (Nat.le_of_ble_eq_true rfl) ?_
  intro p e s m below meth c A ls C0 hP hD hl
  obtain ⟨hx, hb, hr, hml, hts, hown, hlocks, hK, hA⟩ := id C0
  generalize hQ : MQ below _ _ s 0 0 A = Q
  have hS : va_S A s.heap s.heap [] := va_S.rf
  have hl : lv_has ls 6 [(0, .ref a), (1, .int (nI x)), (2, .int (nI ex))] := hl
  refine lv_iconst (v := nI 1) hx hb dX2_raised_0 (by decide) ?_
  refine lv_istore_n (lv' := [(3, .int (nI 1)), (0, .ref a), (1, .int (nI x)), (2, .int (nI ex))]) hx hb dX2_raised_1 rfl hl (by decide) rfl (fun ls hl => ?_)
  refine lv_iload_n hx hb dX2_raised_2 rfl (lv_at hl 2 rfl) ?_
  refine lv_istore (lv' := [(4, .int (nI x)), (3, .int (nI 1)), (0, .ref a), (1, .int (nI x)), (2, .int (nI ex))]) hx hb dX2_raised_3 hl (by decide) rfl (fun ls hl => ?_)
  refine lv_iload_n hx hb dX2_raised_5 rfl (lv_at hl 4 rfl) ?_
  refine lv_istore (lv' := [(5, .int (nI ex)), (4, .int (nI x)), (3, .int (nI 1)), (0, .ref a), (1, .int (nI x)), (2, .int (nI ex))]) hx hb dX2_raised_6 hl (by decide) rfl (fun ls hl => ?_)
  have lp8_1 : ∀ (nn : Nat) (z : Nat) (sq : Nat) (re : Nat) (H : Heap) (locs : List Loc) (ls : Array Slot), (z < 65536) → (sq < 65536) → (re < 2 ^ 31) → (nm z (np sq re) = np x ex) → re < nn → va_P D vwCl [(a, .inr (2, [.ref b])), (b, .inl (cY 0, 256, .inl (m_nf bp)))] H → va_D A [(a, .inr (2, [.ref b])), (b, .inl (cY 0, 256, .inl (m_nf bp)))] → va_S A s.heap H locs → lv_has ls 6 [(0, .ref a), (3, .int (nI z)), (4, .int (nI sq)), (5, .int (nI re))] → W p l e { frames := 1, cells := 0, slots := 0, locals := 25 } s m ([.ref a, .int (nI x), .int (nI ex)] : List Value).toArray below meth c H locs 0 0 Q (F0 m 8 ls []) := by
    intro nn
    induction nn with
    | zero => intros; omega
    | succ nn ih8 =>
      intro z sq re H locs ls hz hsq hre hv hmz hP hD hS hl
      refine lv_iload hx hb dX2_raised_8 (lv_at hl 3 rfl) ?_
      refine lv_if_le (tgt := 46) hx hb dX2_raised_10 (by decide) (fun c10 => ?_) (fun c10 => ?_)
      · have c10 : re ≤ 0 := (nI_leI (a := re) (b := 0) (by first | omega | exact Nat.lt_of_le_of_lt Nat.and_le_right (by decide) | exact Nat.lt_trans (nm_lt _ _) (by decide) | exact Nat.lt_trans (np_lt _ _) (by decide)) (by first | omega | exact Nat.lt_of_le_of_lt Nat.and_le_right (by decide) | exact Nat.lt_trans (nm_lt _ _) (by decide) | exact Nat.lt_trans (np_lt _ _) (by decide))).mp c10
        refine lv_iload_n hx hb dX2_raised_46 rfl (lv_at hl 1 rfl) ?_
        subst hQ
        exact m_iret C0 hS dX2_raised_47 (u := ()) hP (by rw [← hv, show re = 0 by omega]; exact congrArg nI (nm_one' hz).symm)
      · have c10 : ¬ (re ≤ 0) := fun q => c10 ((nI_leI (a := re) (b := 0) (by first | omega | exact Nat.lt_of_le_of_lt Nat.and_le_right (by decide) | exact Nat.lt_trans (nm_lt _ _) (by decide) | exact Nat.lt_trans (np_lt _ _) (by decide)) (by first | omega | exact Nat.lt_of_le_of_lt Nat.and_le_right (by decide) | exact Nat.lt_trans (nm_lt _ _) (by decide) | exact Nat.lt_trans (np_lt _ _) (by decide))).mpr q)
        refine lv_iload hx hb dX2_raised_13 (lv_at hl 3 rfl) ?_
        refine lv_iconst (v := nI 2) hx hb dX2_raised_15 (by decide) ?_
        refine lv_irem hx hb dX2_raised_16 (by decide) ?_
        refine lv_topi (nm_r (pk_rem (by omega) (by omega) (by omega)) ?_)
        refine lv_iconst (v := nI 1) hx hb dX2_raised_17 (by decide) ?_
        refine lv_icmp_ne (tgt := 29) hx hb dX2_raised_18 (by decide) (fun c18 => ?_) (fun c18 => ?_)
        · have c18 : ¬ ((re % 2) = 1) := fun q => c18 ((nI_eq (a := (re % 2)) (b := 1) (by first | omega | exact Nat.lt_of_le_of_lt Nat.and_le_right (by decide) | exact Nat.lt_trans (nm_lt _ _) (by decide) | exact Nat.lt_trans (np_lt _ _) (by decide)) (by first | omega | exact Nat.lt_of_le_of_lt Nat.and_le_right (by decide) | exact Nat.lt_trans (nm_lt _ _) (by decide) | exact Nat.lt_trans (np_lt _ _) (by decide))).mpr q)
          refine lv_aload_n hx hb dX2_raised_29 rfl (lv_at hl 0 rfl) ?_
          refine lv_iload hx hb dX2_raised_30 (lv_at hl 2 rfl) ?_
          refine m_callVi (As := [.int (nI sq)]) (rest := []) C0 hl hP hD hS (c_X2_square l D cY a b bp sq (by first | assumption | omega | exact nm_lt _ _ | exact np_lt _ _ | decide) (by first | assumption | omega | exact nm_lt _ _ | exact np_lt _ _ | decide)) (cwV 1 hts gX2_raised_X2_square rfl rfl rfl (by decide +kernel) ⟨Nat.le_of_ble_eq_true rfl, Nat.le_of_ble_eq_true rfl⟩) dX2_raised_32 [0, 1] rfl rfl 0 rfl rfl rfl rfl (Nat.le_of_ble_eq_true rfl) (Nat.zero_le _) (Nat.zero_le _) (fun _ => rfl) (fun r3 u H2 locs hw hP hD hS => ?_)
          try dsimp only at hw
          obtain rfl := hw
          have hP : va_P D vwCl [(a, .inr (2, [.ref b])), (b, .inl (cY 0, 256, .inl (m_nf bp)))] H2 := hP
          have hD : va_D A [(a, .inr (2, [.ref b])), (b, .inl (cY 0, 256, .inl (m_nf bp)))] := hD
          refine lv_istore (lv' := [(4, .int (nI (nm sq sq))), (0, .ref a), (3, .int (nI z)), (5, .int (nI re))]) hx hb dX2_raised_35 hl (by decide) rfl (fun ls hl => ?_)
          refine lv_iload hx hb dX2_raised_37 (lv_at hl 3 rfl) ?_
          refine lv_iconst (v := nI 2) hx hb dX2_raised_39 (by decide) ?_
          refine lv_idiv hx hb dX2_raised_40 (by decide) ?_
          refine lv_topi (nm_r (pk_div (by omega) (by omega) (by omega)) ?_)
          refine lv_istore (lv' := [(5, .int (nI (re / 2))), (4, .int (nI (nm sq sq))), (0, .ref a), (3, .int (nI z))]) hx hb dX2_raised_41 hl (by decide) rfl (fun ls hl => ?_)
          refine lv_goto (tgt := 8) hx hb dX2_raised_43 (by decide) ?_
          exact ih8 z (nm sq sq) (re / 2) _ _ ls (by first | assumption | exact nm_lt _ _) (nm_lt _ _) (by first | assumption | omega) (by first | (rw [← np_dbl, show 2 * (re / 2) = re by omega]; exact hv) | (rw [nm_assoc, ← np_odd (a := re / 2), show 2 * (re / 2) + 1 = re by omega]; exact hv)) (by omega) hP hD hS (lv_sub hl [2, 3, 1, 0] rfl)
        · have c18 : (re % 2) = 1 := (nI_eq (a := (re % 2)) (b := 1) (by first | omega | exact Nat.lt_of_le_of_lt Nat.and_le_right (by decide) | exact Nat.lt_trans (nm_lt _ _) (by decide) | exact Nat.lt_trans (np_lt _ _) (by decide)) (by first | omega | exact Nat.lt_of_le_of_lt Nat.and_le_right (by decide) | exact Nat.lt_trans (nm_lt _ _) (by decide) | exact Nat.lt_trans (np_lt _ _) (by decide))).mp c18
          refine lv_aload_n hx hb dX2_raised_21 rfl (lv_at hl 0 rfl) ?_
          refine lv_iload_n hx hb dX2_raised_22 rfl (lv_at hl 1 rfl) ?_
          refine lv_iload hx hb dX2_raised_23 (lv_at hl 2 rfl) ?_
          refine m_callVi (As := [.int (nI z), .int (nI sq)]) (rest := []) C0 hl hP hD hS (c_X2_times l D cY a b bp z sq (by first | assumption | omega | exact nm_lt _ _ | exact np_lt _ _ | decide) (by first | assumption | omega | exact nm_lt _ _ | exact np_lt _ _ | decide) (by first | assumption | omega | exact nm_lt _ _ | exact np_lt _ _ | decide)) (cwV 2 hts gX2_raised_X2_times rfl rfl rfl (by decide +kernel) ⟨Nat.le_of_ble_eq_true rfl, Nat.le_of_ble_eq_true rfl⟩) dX2_raised_25 [0, 1] rfl rfl 0 rfl rfl rfl rfl (Nat.le_of_ble_eq_true rfl) (Nat.zero_le _) (Nat.zero_le _) (fun _ => rfl) (fun r5 u H4 locs hw hP hD hS => ?_)
          try dsimp only at hw
          obtain rfl := hw
          have hP : va_P D vwCl [(a, .inr (2, [.ref b])), (b, .inl (cY 0, 256, .inl (m_nf bp)))] H4 := hP
          have hD : va_D A [(a, .inr (2, [.ref b])), (b, .inl (cY 0, 256, .inl (m_nf bp)))] := hD
          refine lv_istore_n (lv' := [(3, .int (nI (nm z sq))), (0, .ref a), (4, .int (nI sq)), (5, .int (nI re))]) hx hb dX2_raised_28 rfl hl (by decide) rfl (fun ls hl => ?_)
          refine lv_aload_n hx hb dX2_raised_29 rfl (lv_at hl 1 rfl) ?_
          refine lv_iload hx hb dX2_raised_30 (lv_at hl 2 rfl) ?_
          refine m_callVi (As := [.int (nI sq)]) (rest := []) C0 hl hP hD hS (c_X2_square l D cY a b bp sq (by first | assumption | omega | exact nm_lt _ _ | exact np_lt _ _ | decide) (by first | assumption | omega | exact nm_lt _ _ | exact np_lt _ _ | decide)) (cwV 1 hts gX2_raised_X2_square rfl rfl rfl (by decide +kernel) ⟨Nat.le_of_ble_eq_true rfl, Nat.le_of_ble_eq_true rfl⟩) dX2_raised_32 [0, 1] rfl rfl 0 rfl rfl rfl rfl (Nat.le_of_ble_eq_true rfl) (Nat.zero_le _) (Nat.zero_le _) (fun _ => rfl) (fun r7 u H6 locs hw hP hD hS => ?_)
          try dsimp only at hw
          obtain rfl := hw
          have hP : va_P D vwCl [(a, .inr (2, [.ref b])), (b, .inl (cY 0, 256, .inl (m_nf bp)))] H6 := hP
          have hD : va_D A [(a, .inr (2, [.ref b])), (b, .inl (cY 0, 256, .inl (m_nf bp)))] := hD
          refine lv_istore (lv' := [(4, .int (nI (nm sq sq))), (3, .int (nI (nm z sq))), (0, .ref a), (5, .int (nI re))]) hx hb dX2_raised_35 hl (by decide) rfl (fun ls hl => ?_)
          refine lv_iload hx hb dX2_raised_37 (lv_at hl 3 rfl) ?_
          refine lv_iconst (v := nI 2) hx hb dX2_raised_39 (by decide) ?_
          refine lv_idiv hx hb dX2_raised_40 (by decide) ?_
          refine lv_topi (nm_r (pk_div (by omega) (by omega) (by omega)) ?_)
          refine lv_istore (lv' := [(5, .int (nI (re / 2))), (4, .int (nI (nm sq sq))), (3, .int (nI (nm z sq))), (0, .ref a)]) hx hb dX2_raised_41 hl (by decide) rfl (fun ls hl => ?_)
          refine lv_goto (tgt := 8) hx hb dX2_raised_43 (by decide) ?_
          exact ih8 (nm z sq) (nm sq sq) (re / 2) _ _ ls (by first | assumption | exact nm_lt _ _) (nm_lt _ _) (by first | assumption | omega) (by first | (rw [← np_dbl, show 2 * (re / 2) = re by omega]; exact hv) | (rw [nm_assoc, ← np_odd (a := re / 2), show 2 * (re / 2) + 1 = re by omega]; exact hv)) (by omega) hP hD hS (lv_sub hl [3, 2, 1, 0] rfl)
  exact lp8_1 _ 1 x ex _ _ ls (by decide) (by first | assumption | omega) (by first | assumption | omega) (nm_one (np_lt _ _)) (Nat.lt_succ_self _) hP hD hS (lv_sub hl [3, 2, 1, 0] rfl)
set_option maxHeartbeats 4000000 in
set_option maxRecDepth 100000 in
theorem c_X2_dividedBy (l : Launch) (D : va_G) (cY : Nat → ClassId) (a b : Nat) (bp : Nat → Nat) (x o : Nat) (hxx : x < 65536) (hoo : o < 65536) (hB : n_bp bp) : m_Mi l yX2_dividedBy wsX2_dividedBy 1 25 D cY [.ref a, .int (nI x), .int (nI o)] [(a, .inr (2, [.ref b])), (b, .inl (cY 0, 256, .inl (m_nf bp)))] (fun (res : Int32) (u : Unit) => res = n_div x o) (fun (u : Unit) => [(a, .inr (2, [.ref b])), (b, .inl (cY 0, 256, .inl (m_nf bp)))]) := by
  refine m_enterI (cc := cX2_dividedBy) (maxL := 6) (ret := (some .int)) (by decide +kernel) rfl (Nat.le_of_ble_eq_true rfl) ?_
  intro p e s m below meth c A ls C0 hP hD hl
  obtain ⟨hx, hb, hr, hml, hts, hown, hlocks, hK, hA⟩ := id C0
  generalize hQ : MQ below _ _ s 0 0 A = Q
  have hS : va_S A s.heap s.heap [] := va_S.rf
  have hl : lv_has ls 6 [(0, .ref a), (1, .int (nI x)), (2, .int (nI o))] := hl
  refine lv_iload_n hx hb dX2_dividedBy_0 rfl (lv_at hl 2 rfl) ?_
  refine lv_if_ne (tgt := 6) hx hb dX2_dividedBy_1 (by decide) (fun c1 => ?_) (fun c1 => ?_)
  · have c1 : ¬ (o = 0) := fun q => c1 ((nI_eq (a := o) (b := 0) (by first | omega | exact Nat.lt_of_le_of_lt Nat.and_le_right (by decide) | exact Nat.lt_trans (nm_lt _ _) (by decide) | exact Nat.lt_trans (np_lt _ _) (by decide)) (by first | omega | exact Nat.lt_of_le_of_lt Nat.and_le_right (by decide) | exact Nat.lt_trans (nm_lt _ _) (by decide) | exact Nat.lt_trans (np_lt _ _) (by decide))).mpr q)
    refine lv_iload_n hx hb dX2_dividedBy_6 rfl (lv_at hl 1 rfl) ?_
    refine lv_istore_n (lv' := [(3, .int (nI x)), (0, .ref a), (1, .int (nI x)), (2, .int (nI o))]) hx hb dX2_dividedBy_7 rfl hl (by decide) rfl (fun ls hl => ?_)
    refine lv_iload_n hx hb dX2_dividedBy_8 rfl (lv_at hl 3 rfl) ?_
    refine lv_istore (lv' := [(4, .int (nI o)), (3, .int (nI x)), (0, .ref a), (1, .int (nI x)), (2, .int (nI o))]) hx hb dX2_dividedBy_9 hl (by decide) rfl (fun ls hl => ?_)
    refine lv_iconst (v := nI 1) hx hb dX2_dividedBy_11 (by decide) ?_
    refine lv_istore (lv' := [(5, .int (nI 1)), (4, .int (nI o)), (3, .int (nI x)), (0, .ref a), (1, .int (nI x)), (2, .int (nI o))]) hx hb dX2_dividedBy_12 hl (by decide) rfl (fun ls hl => ?_)
    have lp14_1 : ∀ (nn : Nat) (i : Nat) (z : Nat) (sq : Nat) (H : Heap) (locs : List Loc) (ls : Array Slot), (1 ≤ i ∧ i ≤ 16) → (z = nm x (np o (2 ^ i - 2))) → (sq = np o (2 ^ (i - 1))) → (z < 65536) → (sq < 65536) → 16 - i < nn → va_P D vwCl [(a, .inr (2, [.ref b])), (b, .inl (cY 0, 256, .inl (m_nf bp)))] H → va_D A [(a, .inr (2, [.ref b])), (b, .inl (cY 0, 256, .inl (m_nf bp)))] → va_S A s.heap H locs → lv_has ls 6 [(0, .ref a), (3, .int (nI z)), (4, .int (nI sq)), (5, .int (nI i))] → W p l e { frames := 1, cells := 0, slots := 0, locals := 25 } s m ([.ref a, .int (nI x), .int (nI o)] : List Value).toArray below meth c H locs 0 0 Q (F0 m 14 ls []) := by
      intro nn
      induction nn with
      | zero => intros; omega
      | succ nn ih14 =>
        intro i z sq H locs ls hi hz hsq hz1 hsq1 hmz hP hD hS hl
        refine lv_iload hx hb dX2_dividedBy_14 (lv_at hl 3 rfl) ?_
        refine lv_bipush (v := nI 16) hx hb dX2_dividedBy_16 (by decide) ?_
        refine lv_icmp_ge (tgt := 43) hx hb dX2_dividedBy_18 (by decide) (fun c18 => ?_) (fun c18 => ?_)
        · have c18 : 16 ≤ i := (nI_leI (a := 16) (b := i) (by first | omega | exact Nat.lt_of_le_of_lt Nat.and_le_right (by decide) | exact Nat.lt_trans (nm_lt _ _) (by decide) | exact Nat.lt_trans (np_lt _ _) (by decide)) (by first | omega | exact Nat.lt_of_le_of_lt Nat.and_le_right (by decide) | exact Nat.lt_trans (nm_lt _ _) (by decide) | exact Nat.lt_trans (np_lt _ _) (by decide))).mp c18
          refine lv_iload_n hx hb dX2_dividedBy_43 rfl (lv_at hl 1 rfl) ?_
          subst hQ
          exact m_iret C0 hS dX2_dividedBy_44 (u := ()) hP (by rw [n_div, if_neg (by omega), hz, show i = 16 by omega])
        · have c18 : ¬ (16 ≤ i) := fun q => c18 ((nI_leI (a := 16) (b := i) (by first | omega | exact Nat.lt_of_le_of_lt Nat.and_le_right (by decide) | exact Nat.lt_trans (nm_lt _ _) (by decide) | exact Nat.lt_trans (np_lt _ _) (by decide)) (by first | omega | exact Nat.lt_of_le_of_lt Nat.and_le_right (by decide) | exact Nat.lt_trans (nm_lt _ _) (by decide) | exact Nat.lt_trans (np_lt _ _) (by decide))).mpr q)
          refine lv_aload_n hx hb dX2_dividedBy_21 rfl (lv_at hl 0 rfl) ?_
          refine lv_iload hx hb dX2_dividedBy_22 (lv_at hl 2 rfl) ?_
          refine m_callVi (As := [.int (nI sq)]) (rest := []) C0 hl hP hD hS (c_X2_square l D cY a b bp sq (by first | assumption | omega | exact nm_lt _ _ | exact np_lt _ _ | decide) (by first | assumption | omega | exact nm_lt _ _ | exact np_lt _ _ | decide)) (cwV 1 hts gX2_dividedBy_X2_square rfl rfl rfl (by decide +kernel) ⟨Nat.le_of_ble_eq_true rfl, Nat.le_of_ble_eq_true rfl⟩) dX2_dividedBy_24 [0, 1] rfl rfl 0 rfl rfl rfl rfl (Nat.le_of_ble_eq_true rfl) (Nat.zero_le _) (Nat.zero_le _) (fun _ => rfl) (fun r3 u H2 locs hw hP hD hS => ?_)
          try dsimp only at hw
          obtain rfl := hw
          have hP : va_P D vwCl [(a, .inr (2, [.ref b])), (b, .inl (cY 0, 256, .inl (m_nf bp)))] H2 := hP
          have hD : va_D A [(a, .inr (2, [.ref b])), (b, .inl (cY 0, 256, .inl (m_nf bp)))] := hD
          refine lv_istore (lv' := [(4, .int (nI (nm sq sq))), (0, .ref a), (3, .int (nI z)), (5, .int (nI i))]) hx hb dX2_dividedBy_27 hl (by decide) rfl (fun ls hl => ?_)
          refine lv_aload_n hx hb dX2_dividedBy_29 rfl (lv_at hl 1 rfl) ?_
          refine lv_iload_n hx hb dX2_dividedBy_30 rfl (lv_at hl 2 rfl) ?_
          refine lv_iload hx hb dX2_dividedBy_31 (lv_at hl 0 rfl) ?_
          refine m_callVi (As := [.int (nI z), .int (nI (nm sq sq))]) (rest := []) C0 hl hP hD hS (c_X2_times l D cY a b bp z (nm sq sq) (by first | assumption | omega | exact nm_lt _ _ | exact np_lt _ _ | decide) (by first | assumption | omega | exact nm_lt _ _ | exact np_lt _ _ | decide) (by first | assumption | omega | exact nm_lt _ _ | exact np_lt _ _ | decide)) (cwV 2 hts gX2_dividedBy_X2_times rfl rfl rfl (by decide +kernel) ⟨Nat.le_of_ble_eq_true rfl, Nat.le_of_ble_eq_true rfl⟩) dX2_dividedBy_33 [0, 1] rfl rfl 0 rfl rfl rfl rfl (Nat.le_of_ble_eq_true rfl) (Nat.zero_le _) (Nat.zero_le _) (fun _ => rfl) (fun r5 u H4 locs hw hP hD hS => ?_)
          try dsimp only at hw
          obtain rfl := hw
          have hP : va_P D vwCl [(a, .inr (2, [.ref b])), (b, .inl (cY 0, 256, .inl (m_nf bp)))] H4 := hP
          have hD : va_D A [(a, .inr (2, [.ref b])), (b, .inl (cY 0, 256, .inl (m_nf bp)))] := hD
          refine lv_istore_n (lv' := [(3, .int (nI (nm z (nm sq sq)))), (4, .int (nI (nm sq sq))), (0, .ref a), (5, .int (nI i))]) hx hb dX2_dividedBy_36 rfl hl (by decide) rfl (fun ls hl => ?_)
          refine lv_iinc (v := nI (i + 1)) (lv' := [(5, .int (nI (i + 1))), (3, .int (nI (nm z (nm sq sq)))), (4, .int (nI (nm sq sq))), (0, .ref a)]) hx hb dX2_dividedBy_37 hl (k := 3) rfl (nI_add _ 1) (by decide) rfl (fun ls hl => ?_)
          refine lv_goto (tgt := 14) hx hb dX2_dividedBy_40 (by decide) ?_
          exact ih14 (i + 1) (nm z (nm sq sq)) (nm sq sq) _ _ ls (by first | assumption | omega) (by rw [hz, hsq, np_sq, n_p2 hi.1, nm_assoc, ← np_add, n_p2s i hi.1]) (by rw [hsq, np_sq, n_p2 hi.1, Nat.add_sub_cancel]) (nm_lt _ _) (nm_lt _ _) (by omega) hP hD hS (lv_sub hl [3, 1, 2, 0] rfl)
    exact lp14_1 _ 1 x o _ _ ls (by decide) ((nm_one' hxx).symm) ((np_1 hoo).symm) (by first | assumption | omega) (by first | assumption | omega) (Nat.lt_succ_self _) hP hD hS (lv_sub hl [3, 2, 1, 0] rfl)
  · have c1 : o = 0 := (nI_eq (a := o) (b := 0) (by first | omega | exact Nat.lt_of_le_of_lt Nat.and_le_right (by decide) | exact Nat.lt_trans (nm_lt _ _) (by decide) | exact Nat.lt_trans (np_lt _ _) (by decide)) (by first | omega | exact Nat.lt_of_le_of_lt Nat.and_le_right (by decide) | exact Nat.lt_trans (nm_lt _ _) (by decide) | exact Nat.lt_trans (np_lt _ _) (by decide))).mp c1
    refine lv_iconst (v := (-1)) hx hb dX2_dividedBy_4 (by decide) ?_
    subst hQ
    exact m_iret C0 hS dX2_dividedBy_5 (u := ()) hP (by rw [n_div, if_pos (by omega)])
set_option maxHeartbeats 4000000 in
set_option maxRecDepth 100000 in
theorem c_X2_root (l : Launch) (D : va_G) (cY : Nat → ClassId) (a b : Nat) (bp : Nat → Nat) (x : Nat) (hxx : x < 65536) (hB : n_bp bp) : m_Mi l yX2_root wsX2_root 1 23 D cY [.ref a, .int (nI x)] [(a, .inr (2, [.ref b])), (b, .inl (cY 0, 256, .inl (m_nf bp)))] (fun (res : Int32) (u : Unit) => res = nI (np x 32768)) (fun (u : Unit) => [(a, .inr (2, [.ref b])), (b, .inl (cY 0, 256, .inl (m_nf bp)))]) := by
  refine m_enterI (cc := cX2_root) (maxL := 4) (ret := (some .int)) (by decide +kernel) rfl (Nat.le_of_ble_eq_true rfl) ?_
  intro p e s m below meth c A ls C0 hP hD hl
  obtain ⟨hx, hb, hr, hml, hts, hown, hlocks, hK, hA⟩ := id C0
  generalize hQ : MQ below _ _ s 0 0 A = Q
  have hS : va_S A s.heap s.heap [] := va_S.rf
  have hl : lv_has ls 4 [(0, .ref a), (1, .int (nI x))] := hl
  refine lv_iload_n hx hb dX2_root_0 rfl (lv_at hl 1 rfl) ?_
  refine lv_istore_n (lv' := [(2, .int (nI x)), (0, .ref a), (1, .int (nI x))]) hx hb dX2_root_1 rfl hl (by decide) rfl (fun ls hl => ?_)
  refine lv_iconst (v := nI 1) hx hb dX2_root_2 (by decide) ?_
  refine lv_istore_n (lv' := [(3, .int (nI 1)), (2, .int (nI x)), (0, .ref a), (1, .int (nI x))]) hx hb dX2_root_3 rfl hl (by decide) rfl (fun ls hl => ?_)
  have lp4_1 : ∀ (nn : Nat) (i : Nat) (z : Nat) (H : Heap) (locs : List Loc) (ls : Array Slot), (1 ≤ i ∧ i ≤ 16) → (z = np x (2 ^ (i - 1))) → (z < 65536) → 16 - i < nn → va_P D vwCl [(a, .inr (2, [.ref b])), (b, .inl (cY 0, 256, .inl (m_nf bp)))] H → va_D A [(a, .inr (2, [.ref b])), (b, .inl (cY 0, 256, .inl (m_nf bp)))] → va_S A s.heap H locs → lv_has ls 4 [(0, .ref a), (2, .int (nI z)), (3, .int (nI i))] → W p l e { frames := 1, cells := 0, slots := 0, locals := 23 } s m ([.ref a, .int (nI x)] : List Value).toArray below meth c H locs 0 0 Q (F0 m 4 ls []) := by
    intro nn
    induction nn with
    | zero => intros; omega
    | succ nn ih4 =>
      intro i z H locs ls hi hz hz1 hmz hP hD hS hl
      refine lv_iload_n hx hb dX2_root_4 rfl (lv_at hl 2 rfl) ?_
      refine lv_bipush (v := nI 16) hx hb dX2_root_5 (by decide) ?_
      refine lv_icmp_ge (tgt := 22) hx hb dX2_root_7 (by decide) (fun c7 => ?_) (fun c7 => ?_)
      · have c7 : 16 ≤ i := (nI_leI (a := 16) (b := i) (by first | omega | exact Nat.lt_of_le_of_lt Nat.and_le_right (by decide) | exact Nat.lt_trans (nm_lt _ _) (by decide) | exact Nat.lt_trans (np_lt _ _) (by decide)) (by first | omega | exact Nat.lt_of_le_of_lt Nat.and_le_right (by decide) | exact Nat.lt_trans (nm_lt _ _) (by decide) | exact Nat.lt_trans (np_lt _ _) (by decide))).mp c7
        refine lv_iload_n hx hb dX2_root_22 rfl (lv_at hl 1 rfl) ?_
        subst hQ
        exact m_iret C0 hS dX2_root_23 (u := ()) hP (by rw [hz, show i = 16 by omega])
      · have c7 : ¬ (16 ≤ i) := fun q => c7 ((nI_leI (a := 16) (b := i) (by first | omega | exact Nat.lt_of_le_of_lt Nat.and_le_right (by decide) | exact Nat.lt_trans (nm_lt _ _) (by decide) | exact Nat.lt_trans (np_lt _ _) (by decide)) (by first | omega | exact Nat.lt_of_le_of_lt Nat.and_le_right (by decide) | exact Nat.lt_trans (nm_lt _ _) (by decide) | exact Nat.lt_trans (np_lt _ _) (by decide))).mpr q)
        refine lv_aload_n hx hb dX2_root_10 rfl (lv_at hl 0 rfl) ?_
        refine lv_iload_n hx hb dX2_root_11 rfl (lv_at hl 1 rfl) ?_
        refine m_callVi (As := [.int (nI z)]) (rest := []) C0 hl hP hD hS (c_X2_square l D cY a b bp z (by first | assumption | omega | exact nm_lt _ _ | exact np_lt _ _ | decide) (by first | assumption | omega | exact nm_lt _ _ | exact np_lt _ _ | decide)) (cwV 1 hts gX2_root_X2_square rfl rfl rfl (by decide +kernel) ⟨Nat.le_of_ble_eq_true rfl, Nat.le_of_ble_eq_true rfl⟩) dX2_root_12 [0, 1] rfl rfl 0 rfl rfl rfl rfl (Nat.le_of_ble_eq_true rfl) (Nat.zero_le _) (Nat.zero_le _) (fun _ => rfl) (fun r3 u H2 locs hw hP hD hS => ?_)
        try dsimp only at hw
        obtain rfl := hw
        have hP : va_P D vwCl [(a, .inr (2, [.ref b])), (b, .inl (cY 0, 256, .inl (m_nf bp)))] H2 := hP
        have hD : va_D A [(a, .inr (2, [.ref b])), (b, .inl (cY 0, 256, .inl (m_nf bp)))] := hD
        refine lv_istore_n (lv' := [(2, .int (nI (nm z z))), (0, .ref a), (3, .int (nI i))]) hx hb dX2_root_15 rfl hl (by decide) rfl (fun ls hl => ?_)
        refine lv_iinc (v := nI (i + 1)) (lv' := [(3, .int (nI (i + 1))), (2, .int (nI (nm z z))), (0, .ref a)]) hx hb dX2_root_16 hl (k := 2) rfl (nI_add _ 1) (by decide) rfl (fun ls hl => ?_)
        refine lv_goto (tgt := 4) hx hb dX2_root_19 (by decide) ?_
        exact ih4 (i + 1) (nm z z) _ _ ls (by first | assumption | omega) (by rw [hz, np_sq, n_p2 hi.1, Nat.add_sub_cancel]) (nm_lt _ _) (by omega) hP hD hS (lv_sub hl [2, 1, 0] rfl)
  exact lp4_1 _ 1 x _ _ ls (by decide) ((np_1 hxx).symm) (by first | assumption | omega) (Nat.lt_succ_self _) hP hD hS (lv_sub hl [2, 1, 0] rfl)
