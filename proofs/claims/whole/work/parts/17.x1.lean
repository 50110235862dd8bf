set_option maxHeartbeats 4000000 in
set_option maxRecDepth 100000 in
theorem c_X1_seenFor (l : Launch) (D : va_G) (cY : Nat → ClassId) (a b fr : Nat) (f : Nat → Nat) (rw cl : Nat) (hrw : rw < 16) (hcl : cl < 16) (hf : n_tg rw cl f) : m_Mi l yX1_seenFor wsX1_seenFor 0 0 D cY [.ref a, .int (nI rw), .int (nI cl)] [(a, .inr (1, [.ref b, .int (nI fr)])), (b, .inl (cY 0, 256, .inl (m_nf f)))] (fun (res : Int32) (u : Unit) => (res = nI (n_sc nm rw cl rw)) ∧ (n_sc nm rw cl rw < 65536)) (fun (u : Unit) => [(a, .inr (1, [.ref b, .int (nI fr)])), (b, .inl (cY 0, 256, .inl (m_nf f)))]) := by
  refine m_enterI (cc := cX1_seenFor) (maxL := 7) (ret := (some .int)) (by decide +kernel) rfl (Nat.le_of_ble_eq_true rfl) ?_
  intro p e s m below meth c A ls C0 hP hD hl
  obtain ⟨hx, hb, hr, hml, hts, hown, hlocks, hK, hA⟩ := id C0
  generalize hQ : MQ below _ _ s 0 0 A = Q
  have hS : va_S A s.heap s.heap [] := va_S.rf
  have hl : lv_has ls 7 [(0, .ref a), (1, .int (nI rw)), (2, .int (nI cl))] := hl
  have hw0 := hts (.fieldLink RX1 11 "NimberField$LeastNumberTable" "cells" "[I") (by decide +kernel)
  have hw1 := (show ∀ w ∈ u_ws RX1 TX1 2, w ∈ wsX1_seenFor from by decide +kernel)
  refine lv_iconst (v := nI 0) hx hb dX1_seenFor_0 (by decide) ?_
  refine lv_istore_n (lv' := [(3, .int (nI 0)), (0, .ref a), (1, .int (nI rw)), (2, .int (nI cl))]) hx hb dX1_seenFor_1 rfl hl (by decide) rfl (fun ls hl => ?_)
  refine lv_iconst (v := nI 0) hx hb dX1_seenFor_2 (by decide) ?_
  refine lv_istore (lv' := [(4, .int (nI 0)), (3, .int (nI 0)), (0, .ref a), (1, .int (nI rw)), (2, .int (nI cl))]) hx hb dX1_seenFor_3 hl (by decide) rfl (fun ls hl => ?_)
  have lp5_1 : ∀ (nn : Nat) (rc : Nat) (z : Nat) (H : Heap) (locs : List Loc) (ls : Array Slot), (rc ≤ rw) → (z = n_sc nm rw cl rc) → (z < 65536) → rw - rc < nn → va_P D vwCl [(a, .inr (1, [.ref b, .int (nI fr)])), (b, .inl (cY 0, 256, .inl (m_nf f)))] H → va_D A [(a, .inr (1, [.ref b, .int (nI fr)])), (b, .inl (cY 0, 256, .inl (m_nf f)))] → va_S A s.heap H locs → lv_has ls 7 [(0, .ref a), (1, .int (nI rw)), (2, .int (nI cl)), (3, .int (nI z)), (4, .int (nI rc))] → W p l e { frames := 0, cells := 0, slots := 0, locals := 0 } s m ([.ref a, .int (nI rw), .int (nI cl)] : List Value).toArray below meth c H locs 0 0 Q (F0 m 5 ls []) := by
    intro nn
    induction nn with
    | zero => intros; omega
    | succ nn ih5 =>
      intro rc z H locs ls hc hz hz1 hmz hP hD hS hl
      refine lv_iload hx hb dX1_seenFor_5 (lv_at hl 4 rfl) ?_
      refine lv_iload_n hx hb dX1_seenFor_7 rfl (lv_at hl 1 rfl) ?_
      refine lv_icmp_ge (tgt := 94) hx hb dX1_seenFor_8 (by decide) (fun c8 => ?_) (fun c8 => ?_)
      · have c8 : rw ≤ rc := (nI_leI (a := rw) (b := rc) (by first | omega | exact Nat.lt_of_le_of_lt Nat.and_le_right (by decide) | exact Nat.lt_trans (nm_lt _ _) (by decide) | exact Nat.lt_trans (np_lt _ _) (by decide)) (by first | omega | exact Nat.lt_of_le_of_lt Nat.and_le_right (by decide) | exact Nat.lt_trans (nm_lt _ _) (by decide) | exact Nat.lt_trans (np_lt _ _) (by decide))).mp c8
        refine lv_iload_n hx hb dX1_seenFor_94 rfl (lv_at hl 3 rfl) ?_
        subst hQ
        exact m_iret C0 hS dX1_seenFor_95 (u := ()) hP (⟨by rw [hz, show rc = rw by omega], by (have e : rc = rw := by omega); subst e; rw [← hz]; exact hz1⟩)
      · have c8 : ¬ (rw ≤ rc) := fun q => c8 ((nI_leI (a := rw) (b := rc) (by first | omega | exact Nat.lt_of_le_of_lt Nat.and_le_right (by decide) | exact Nat.lt_trans (nm_lt _ _) (by decide) | exact Nat.lt_trans (np_lt _ _) (by decide)) (by first | omega | exact Nat.lt_of_le_of_lt Nat.and_le_right (by decide) | exact Nat.lt_trans (nm_lt _ _) (by decide) | exact Nat.lt_trans (np_lt _ _) (by decide))).mpr q)
        refine lv_iload hx hb dX1_seenFor_11 (lv_at hl 4 rfl) ?_
        refine lv_bipush (v := nI 16) hx hb dX1_seenFor_13 (by decide) ?_
        refine lv_icmp_ge (tgt := 94) hx hb dX1_seenFor_15 (by decide) (fun c15 => ?_) (fun c15 => ?_)
        · have c15 : 16 ≤ rc := (nI_leI (a := 16) (b := rc) (by first | omega | exact Nat.lt_of_le_of_lt Nat.and_le_right (by decide) | exact Nat.lt_trans (nm_lt _ _) (by decide) | exact Nat.lt_trans (np_lt _ _) (by decide)) (by first | omega | exact Nat.lt_of_le_of_lt Nat.and_le_right (by decide) | exact Nat.lt_trans (nm_lt _ _) (by decide) | exact Nat.lt_trans (np_lt _ _) (by decide))).mp c15
          exfalso; omega
        · have c15 : ¬ (16 ≤ rc) := fun q => c15 ((nI_leI (a := 16) (b := rc) (by first | omega | exact Nat.lt_of_le_of_lt Nat.and_le_right (by decide) | exact Nat.lt_trans (nm_lt _ _) (by decide) | exact Nat.lt_trans (np_lt _ _) (by decide)) (by first | omega | exact Nat.lt_of_le_of_lt Nat.and_le_right (by decide) | exact Nat.lt_trans (nm_lt _ _) (by decide) | exact Nat.lt_trans (np_lt _ _) (by decide))).mpr q)
          refine lv_iconst (v := nI 0) hx hb dX1_seenFor_18 (by decide) ?_
          refine lv_istore (lv' := [(5, .int (nI 0)), (0, .ref a), (1, .int (nI rw)), (2, .int (nI cl)), (3, .int (nI z)), (4, .int (nI rc))]) hx hb dX1_seenFor_19 hl (by decide) rfl (fun ls hl => ?_)
          have lp21_2 : ∀ (nn : Nat) (d : Nat) (y : Nat) (H : Heap) (locs : List Loc) (ls : Array Slot), (d ≤ cl) → (y = n_sd nm rw cl rc d z) → (y < 65536) → cl - d < nn → va_P D vwCl [(a, .inr (1, [.ref b, .int (nI fr)])), (b, .inl (cY 0, 256, .inl (m_nf f)))] H → va_D A [(a, .inr (1, [.ref b, .int (nI fr)])), (b, .inl (cY 0, 256, .inl (m_nf f)))] → va_S A s.heap H locs → lv_has ls 7 [(0, .ref a), (1, .int (nI rw)), (2, .int (nI cl)), (3, .int (nI y)), (4, .int (nI rc)), (5, .int (nI d))] → W p l e { frames := 0, cells := 0, slots := 0, locals := 0 } s m ([.ref a, .int (nI rw), .int (nI cl)] : List Value).toArray below meth c H locs 0 0 Q (F0 m 21 ls []) := by
            intro nn
            induction nn with
            | zero => intros; omega
            | succ nn ih21 =>
              intro d y H locs ls hd hy hy1 hmz hP hD hS hl
              refine lv_iload hx hb dX1_seenFor_21 (lv_at hl 5 rfl) ?_
              refine lv_iload_n hx hb dX1_seenFor_23 rfl (lv_at hl 2 rfl) ?_
              refine lv_icmp_ge (tgt := 88) hx hb dX1_seenFor_24 (by decide) (fun c24 => ?_) (fun c24 => ?_)
              · have c24 : cl ≤ d := (nI_leI (a := cl) (b := d) (by first | omega | exact Nat.lt_of_le_of_lt Nat.and_le_right (by decide) | exact Nat.lt_trans (nm_lt _ _) (by decide) | exact Nat.lt_trans (np_lt _ _) (by decide)) (by first | omega | exact Nat.lt_of_le_of_lt Nat.and_le_right (by decide) | exact Nat.lt_trans (nm_lt _ _) (by decide) | exact Nat.lt_trans (np_lt _ _) (by decide))).mp c24
                refine lv_iinc (v := nI (rc + 1)) (lv' := [(4, .int (nI (rc + 1))), (0, .ref a), (1, .int (nI rw)), (2, .int (nI cl)), (3, .int (nI y)), (5, .int (nI d))]) hx hb dX1_seenFor_88 hl (k := 4) rfl (nI_add _ 1) (by decide) rfl (fun ls hl => ?_)
                refine lv_goto (tgt := 5) hx hb dX1_seenFor_91 (by decide) ?_
                exact ih5 (rc + 1) y _ _ ls (by first | assumption | omega) (by rw [n_sc, ← hz, hy, show d = cl by omega]) (by first | assumption | omega) (by omega) hP hD hS (lv_sub hl [1, 2, 3, 4, 0] rfl)
              · have c24 : ¬ (cl ≤ d) := fun q => c24 ((nI_leI (a := cl) (b := d) (by first | omega | exact Nat.lt_of_le_of_lt Nat.and_le_right (by decide) | exact Nat.lt_trans (nm_lt _ _) (by decide) | exact Nat.lt_trans (np_lt _ _) (by decide)) (by first | omega | exact Nat.lt_of_le_of_lt Nat.and_le_right (by decide) | exact Nat.lt_trans (nm_lt _ _) (by decide) | exact Nat.lt_trans (np_lt _ _) (by decide))).mpr q)
                refine lv_iload hx hb dX1_seenFor_27 (lv_at hl 5 rfl) ?_
                refine lv_bipush (v := nI 16) hx hb dX1_seenFor_29 (by decide) ?_
                refine lv_icmp_ge (tgt := 88) hx hb dX1_seenFor_31 (by decide) (fun c31 => ?_) (fun c31 => ?_)
                · have c31 : 16 ≤ d := (nI_leI (a := 16) (b := d) (by first | omega | exact Nat.lt_of_le_of_lt Nat.and_le_right (by decide) | exact Nat.lt_trans (nm_lt _ _) (by decide) | exact Nat.lt_trans (np_lt _ _) (by decide)) (by first | omega | exact Nat.lt_of_le_of_lt Nat.and_le_right (by decide) | exact Nat.lt_trans (nm_lt _ _) (by decide) | exact Nat.lt_trans (np_lt _ _) (by decide))).mp c31
                  exfalso; omega
                · have c31 : ¬ (16 ≤ d) := fun q => c31 ((nI_leI (a := 16) (b := d) (by first | omega | exact Nat.lt_of_le_of_lt Nat.and_le_right (by decide) | exact Nat.lt_trans (nm_lt _ _) (by decide) | exact Nat.lt_trans (np_lt _ _) (by decide)) (by first | omega | exact Nat.lt_of_le_of_lt Nat.and_le_right (by decide) | exact Nat.lt_trans (nm_lt _ _) (by decide) | exact Nat.lt_trans (np_lt _ _) (by decide))).mpr q)
                  refine lv_aload_n hx hb dX1_seenFor_34 rfl (lv_at hl 0 rfl) ?_
                  refine va_get (D := D) (ci := 1) (v := .ref b) (C := RX1) (T := TX1) (N := 2) hx hb hts hw1 hown hK hP 0 rfl rfl 0 (by decide) hw0 (fun _ h9 => h9) rfl dX1_seenFor_35 ?_
                  refine lv_bipush (v := nI 16) hx hb dX1_seenFor_38 (by decide) ?_
                  refine lv_iload hx hb dX1_seenFor_40 (lv_at hl 4 rfl) ?_
                  refine lv_imul hx hb dX1_seenFor_42 ?_
                  refine lv_topi (nm_r (pk_mul _ _) ?_)
                  refine lv_iload_n hx hb dX1_seenFor_43 rfl (lv_at hl 2 rfl) ?_
                  refine lv_iadd hx hb dX1_seenFor_44 ?_
                  refine lv_topi (nm_r (nI_add _ _) ?_)
                  refine va_iald hx hb hK hP 1 0 rfl rfl (m_in (n := (16 * rc) + cl) (by first | assumption | omega) (by decide)) dX1_seenFor_45 ?_
                  refine lv_topi (nm_r (m_ldn (g := f) (n := (16 * rc) + cl) (by omega)) ?_)
                  refine lv_aload_n hx hb dX1_seenFor_46 rfl (lv_at hl 0 rfl) ?_
                  refine va_get (D := D) (ci := 1) (v := .ref b) (C := RX1) (T := TX1) (N := 2) hx hb hts hw1 hown hK hP 0 rfl rfl 0 (by decide) hw0 (fun _ h9 => h9) rfl dX1_seenFor_47 ?_
                  refine lv_bipush (v := nI 16) hx hb dX1_seenFor_50 (by decide) ?_
                  refine lv_iload_n hx hb dX1_seenFor_52 rfl (lv_at hl 1 rfl) ?_
                  refine lv_imul hx hb dX1_seenFor_53 ?_
                  refine lv_topi (nm_r (pk_mul _ _) ?_)
                  refine lv_iload hx hb dX1_seenFor_54 (lv_at hl 5 rfl) ?_
                  refine lv_iadd hx hb dX1_seenFor_56 ?_
                  refine lv_topi (nm_r (nI_add _ _) ?_)
                  refine va_iald hx hb hK hP 1 0 rfl rfl (m_in (n := (16 * rw) + d) (by first | assumption | omega) (by decide)) dX1_seenFor_57 ?_
                  refine lv_topi (nm_r (m_ldn (g := f) (n := (16 * rw) + d) (by omega)) ?_)
                  refine lv_ixor hx hb dX1_seenFor_58 ?_
                  refine lv_topi (nm_r (nx_xor _ _) ?_)
                  refine lv_aload_n hx hb dX1_seenFor_59 rfl (lv_at hl 0 rfl) ?_
                  refine va_get (D := D) (ci := 1) (v := .ref b) (C := RX1) (T := TX1) (N := 2) hx hb hts hw1 hown hK hP 0 rfl rfl 0 (by decide) hw0 (fun _ h9 => h9) rfl dX1_seenFor_60 ?_
                  refine lv_bipush (v := nI 16) hx hb dX1_seenFor_63 (by decide) ?_
                  refine lv_iload hx hb dX1_seenFor_65 (lv_at hl 4 rfl) ?_
                  refine lv_imul hx hb dX1_seenFor_67 ?_
                  refine lv_topi (nm_r (pk_mul _ _) ?_)
                  refine lv_iload hx hb dX1_seenFor_68 (lv_at hl 5 rfl) ?_
                  refine lv_iadd hx hb dX1_seenFor_70 ?_
                  refine lv_topi (nm_r (nI_add _ _) ?_)
                  refine va_iald hx hb hK hP 1 0 rfl rfl (m_in (n := (16 * rc) + d) (by first | assumption | omega) (by decide)) dX1_seenFor_71 ?_
                  refine lv_topi (nm_r (m_ldn (g := f) (n := (16 * rc) + d) (by omega)) ?_)
                  refine lv_ixor hx hb dX1_seenFor_72 ?_
                  refine lv_topi (nm_r (nx_xor _ _) ?_)
                  have hnum : ((f ((16 * rc) + cl)) ^^^ (f ((16 * rw) + d))) ^^^ (f ((16 * rc) + d)) = (nm rc cl ^^^ nm rw d) ^^^ nm rc d := by rw [hf.1 rc cl (by omega) (by omega), hf.2 d (by omega), hf.1 rc d (by omega) (by omega)]
                  have hnlt : (nm rc cl ^^^ nm rw d) ^^^ nm rc d < 16 := n_x4 (n_x4 (nm_16 (by omega) hcl) (nm_16 hrw (by omega))) (nm_16 (by omega) (by omega))
                  refine lv_topi (nm_r (congrArg nI hnum) ?_)
                  refine lv_istore (lv' := [(6, .int (nI ((nm rc cl ^^^ nm rw d) ^^^ nm rc d))), (0, .ref a), (1, .int (nI rw)), (2, .int (nI cl)), (3, .int (nI y)), (4, .int (nI rc)), (5, .int (nI d))]) hx hb dX1_seenFor_73 hl (by decide) rfl (fun ls hl => ?_)
                  refine lv_iload_n hx hb dX1_seenFor_75 rfl (lv_at hl 4 rfl) ?_
                  refine lv_iconst (v := nI 1) hx hb dX1_seenFor_76 (by decide) ?_
                  refine lv_iload hx hb dX1_seenFor_77 (lv_at hl 0 rfl) ?_
                  refine lv_ishl hx hb dX1_seenFor_79 ?_
                  refine lv_topi (nm_r (m_shl _ _ (by omega)) ?_)
                  refine lv_ior hx hb dX1_seenFor_80 ?_
                  refine lv_topi (nm_r (nx_or _ _) ?_)
                  refine lv_istore_n (lv' := [(3, .int (nI (y ||| (1 <<< ((nm rc cl ^^^ nm rw d) ^^^ nm rc d))))), (6, .int (nI ((nm rc cl ^^^ nm rw d) ^^^ nm rc d))), (0, .ref a), (1, .int (nI rw)), (2, .int (nI cl)), (4, .int (nI rc)), (5, .int (nI d))]) hx hb dX1_seenFor_81 rfl hl (by decide) rfl (fun ls hl => ?_)
                  refine lv_iinc (v := nI (d + 1)) (lv' := [(5, .int (nI (d + 1))), (3, .int (nI (y ||| (1 <<< ((nm rc cl ^^^ nm rw d) ^^^ nm rc d))))), (6, .int (nI ((nm rc cl ^^^ nm rw d) ^^^ nm rc d))), (0, .ref a), (1, .int (nI rw)), (2, .int (nI cl)), (4, .int (nI rc))]) hx hb dX1_seenFor_82 hl (k := 6) rfl (nI_add _ 1) (by decide) rfl (fun ls hl => ?_)
                  refine lv_goto (tgt := 21) hx hb dX1_seenFor_85 (by decide) ?_
                  exact ih21 (d + 1) (y ||| (1 <<< ((nm rc cl ^^^ nm rw d) ^^^ nm rc d))) _ _ ls (by first | assumption | omega) (by rw [n_sd, ← hy]) (n_o16 hy1 (n_sh1 (by omega))) (by omega) hP hD hS (lv_sub hl [3, 4, 5, 1, 6, 0] rfl)
          exact lp21_2 _ 0 z _ _ ls (by first | assumption | omega) (rfl) (by first | assumption | omega) (Nat.lt_succ_self _) hP hD hS (lv_sub hl [1, 2, 3, 4, 5, 0] rfl)
  exact lp5_1 _ 0 0 _ _ ls (by first | assumption | omega) (rfl) (by first | assumption | omega) (Nat.lt_succ_self _) hP hD hS (lv_sub hl [2, 3, 4, 1, 0] rfl)
set_option maxHeartbeats 4000000 in
set_option maxRecDepth 100000 in
theorem c_X1_fillRow (l : Launch) (D : va_G) (cY : Nat → ClassId) (a b fr : Nat) (f : Nat → Nat) (rw : Nat) (hrw : rw < 16) (hf : n_tf rw f) : m_Mv l yX1_fillRow wsX1_fillRow 1 26 D cY [.ref a, .int (nI rw)] [(a, .inr (1, [.ref b, .int (nI fr)])), (b, .inl (cY 0, 256, .inl (m_nf f)))] (fun (u : (Nat → Nat)) => n_tf (rw + 1) u) (fun (u : (Nat → Nat)) => [(a, .inr (1, [.ref b, .int (nI fr)])), (b, .inl (cY 0, 256, .inl (m_nf u)))]) := by
  refine m_enterV (cc := cX1_fillRow) (maxL := 5) (ret := none) (by decide +kernel) rfl (Nat.le_of_ble_eq_true rfl) ?_
  intro p e s m below meth c A ls C0 hP hD hl
  obtain ⟨hx, hb, hr, hml, hts, hown, hlocks, hK, hA⟩ := id C0
  generalize hQ : MQ below _ _ s 0 0 A = Q
  have hS : va_S A s.heap s.heap [] := va_S.rf
  have hl : lv_has ls 5 [(0, .ref a), (1, .int (nI rw))] := hl
  have hw0 := hts (.fieldLink RX1 11 "NimberField$LeastNumberTable" "cells" "[I") (by decide +kernel)
  have hw1 := (show ∀ w ∈ u_ws RX1 TX1 2, w ∈ wsX1_fillRow from by decide +kernel)
  refine lv_iconst (v := nI 0) hx hb dX1_fillRow_0 (by decide) ?_
  refine lv_istore_n (lv' := [(2, .int (nI 0)), (0, .ref a), (1, .int (nI rw))]) hx hb dX1_fillRow_1 rfl hl (by decide) rfl (fun ls hl => ?_)
  have lp2_1 : ∀ (nn : Nat) (cl : Nat) (g : Nat → Nat) (H : Heap) (locs : List Loc) (ls : Array Slot), (cl ≤ 16) → (n_tg rw cl g) → 16 - cl < nn → va_P D vwCl [(a, .inr (1, [.ref b, .int (nI fr)])), (b, .inl (cY 0, 256, .inl (m_nf g)))] H → va_D A [(a, .inr (1, [.ref b, .int (nI fr)])), (b, .inl (cY 0, 256, .inl (m_nf g)))] → va_S A s.heap H locs → lv_has ls 5 [(0, .ref a), (1, .int (nI rw)), (2, .int (nI cl))] → W p l e { frames := 1, cells := 0, slots := 0, locals := 26 } s m ([.ref a, .int (nI rw)] : List Value).toArray below meth c H locs 0 0 Q (F0 m 2 ls []) := by
    intro nn
    induction nn with
    | zero => intros; omega
    | succ nn ih2 =>
      intro cl g H locs ls hcl hg hmz hP hD hS hl
      refine lv_iload_n hx hb dX1_fillRow_2 rfl (lv_at hl 2 rfl) ?_
      refine lv_bipush (v := nI 16) hx hb dX1_fillRow_3 (by decide) ?_
      refine lv_icmp_ge (tgt := 60) hx hb dX1_fillRow_5 (by decide) (fun c5 => ?_) (fun c5 => ?_)
      · have c5 : 16 ≤ cl := (nI_leI (a := 16) (b := cl) (by first | omega | exact Nat.lt_of_le_of_lt Nat.and_le_right (by decide) | exact Nat.lt_trans (nm_lt _ _) (by decide) | exact Nat.lt_trans (np_lt _ _) (by decide)) (by first | omega | exact Nat.lt_of_le_of_lt Nat.and_le_right (by decide) | exact Nat.lt_trans (nm_lt _ _) (by decide) | exact Nat.lt_trans (np_lt _ _) (by decide))).mp c5
        subst hQ
        exact m_vret C0 hS dX1_fillRow_60 (u := g) hP (n_tg_row hg (by omega))
      · have c5 : ¬ (16 ≤ cl) := fun q => c5 ((nI_leI (a := 16) (b := cl) (by first | omega | exact Nat.lt_of_le_of_lt Nat.and_le_right (by decide) | exact Nat.lt_trans (nm_lt _ _) (by decide) | exact Nat.lt_trans (np_lt _ _) (by decide)) (by first | omega | exact Nat.lt_of_le_of_lt Nat.and_le_right (by decide) | exact Nat.lt_trans (nm_lt _ _) (by decide) | exact Nat.lt_trans (np_lt _ _) (by decide))).mpr q)
        refine lv_aload_n hx hb dX1_fillRow_8 rfl (lv_at hl 0 rfl) ?_
        refine lv_iload_n hx hb dX1_fillRow_9 rfl (lv_at hl 1 rfl) ?_
        refine lv_iload_n hx hb dX1_fillRow_10 rfl (lv_at hl 2 rfl) ?_
        refine m_callVi (As := [.int (nI rw), .int (nI cl)]) (rest := []) C0 hl hP hD hS (c_X1_seenFor l D cY a b fr g rw cl (by first | assumption | omega | exact nm_lt _ _ | exact np_lt _ _ | decide) (by first | assumption | omega | exact nm_lt _ _ | exact np_lt _ _ | decide) (by first | assumption | omega | exact nm_lt _ _ | exact np_lt _ _ | decide)) (cwV 2 hts gX1_fillRow_X1_seenFor rfl rfl rfl (by decide +kernel) ⟨Nat.le_of_ble_eq_true rfl, Nat.le_of_ble_eq_true rfl⟩) dX1_fillRow_11 [0, 1] rfl rfl 0 rfl rfl rfl rfl (Nat.le_of_ble_eq_true rfl) (Nat.zero_le _) (Nat.zero_le _) (fun _ => rfl) (fun r3 u H2 locs hw hP hD hS => ?_)
        try dsimp only at hw
        obtain ⟨rfl, hq4⟩ := hw
        have hP : va_P D vwCl [(a, .inr (1, [.ref b, .int (nI fr)])), (b, .inl (cY 0, 256, .inl (m_nf g)))] H2 := hP
        have hD : va_D A [(a, .inr (1, [.ref b, .int (nI fr)])), (b, .inl (cY 0, 256, .inl (m_nf g)))] := hD
        have hsee := hq4
        refine lv_istore_n (lv' := [(3, .int (nI (n_sc nm rw cl rw))), (0, .ref a), (1, .int (nI rw)), (2, .int (nI cl))]) hx hb dX1_fillRow_14 rfl hl (by decide) rfl (fun ls hl => ?_)
        refine lv_iconst (v := nI 0) hx hb dX1_fillRow_15 (by decide) ?_
        refine lv_istore (lv' := [(4, .int (nI 0)), (3, .int (nI (n_sc nm rw cl rw))), (0, .ref a), (1, .int (nI rw)), (2, .int (nI cl))]) hx hb dX1_fillRow_16 hl (by decide) rfl (fun ls hl => ?_)
        have lp18_5 : ∀ (nn : Nat) (v : Nat) (H : Heap) (locs : List Loc) (ls : Array Slot), (v ≤ 16) → (∀ k, k < v → (n_sc nm rw cl rw).testBit k = true) → 16 - v < nn → va_P D vwCl [(a, .inr (1, [.ref b, .int (nI fr)])), (b, .inl (cY 0, 256, .inl (m_nf g)))] H → va_D A [(a, .inr (1, [.ref b, .int (nI fr)])), (b, .inl (cY 0, 256, .inl (m_nf g)))] → va_S A s.heap H locs → lv_has ls 5 [(0, .ref a), (1, .int (nI rw)), (2, .int (nI cl)), (3, .int (nI (n_sc nm rw cl rw))), (4, .int (nI v))] → W p l e { frames := 1, cells := 0, slots := 0, locals := 26 } s m ([.ref a, .int (nI rw)] : List Value).toArray below meth c H locs 0 0 Q (F0 m 18 ls []) := by
          intro nn
          induction nn with
          | zero => intros; omega
          | succ nn ih18 =>
            intro v H locs ls hv16 hv hmz hP hD hS hl
            refine lv_iload hx hb dX1_fillRow_18 (lv_at hl 4 rfl) ?_
            refine lv_bipush (v := nI 16) hx hb dX1_fillRow_20 (by decide) ?_
            refine lv_icmp_ge (tgt := 41) hx hb dX1_fillRow_22 (by decide) (fun c22 => ?_) (fun c22 => ?_)
            · have c22 : 16 ≤ v := (nI_leI (a := 16) (b := v) (by first | omega | exact Nat.lt_of_le_of_lt Nat.and_le_right (by decide) | exact Nat.lt_trans (nm_lt _ _) (by decide) | exact Nat.lt_trans (np_lt _ _) (by decide)) (by first | omega | exact Nat.lt_of_le_of_lt Nat.and_le_right (by decide) | exact Nat.lt_trans (nm_lt _ _) (by decide) | exact Nat.lt_trans (np_lt _ _) (by decide))).mp c22
              refine lv_aload_n hx hb dX1_fillRow_41 rfl (lv_at hl 0 rfl) ?_
              refine va_get (D := D) (ci := 1) (v := .ref b) (C := RX1) (T := TX1) (N := 2) hx hb hts hw1 hown hK hP 0 rfl rfl 0 (by decide) hw0 (fun _ h9 => h9) rfl dX1_fillRow_42 ?_
              refine lv_bipush (v := nI 16) hx hb dX1_fillRow_45 (by decide) ?_
              refine lv_iload_n hx hb dX1_fillRow_47 rfl (lv_at hl 1 rfl) ?_
              refine lv_imul hx hb dX1_fillRow_48 ?_
              refine lv_topi (nm_r (pk_mul _ _) ?_)
              refine lv_iload_n hx hb dX1_fillRow_49 rfl (lv_at hl 2 rfl) ?_
              refine lv_iadd hx hb dX1_fillRow_50 ?_
              refine lv_topi (nm_r (nI_add _ _) ?_)
              refine lv_iload hx hb dX1_fillRow_51 (lv_at hl 4 rfl) ?_
              refine va_iast hx hb hK hP hD hS 1 0 rfl rfl (m_in (n := (16 * rw) + cl) (by first | assumption | omega) (by decide)) dX1_fillRow_53 (fun H6 locs hP hD hS => ?_)
              have hP : va_P D vwCl [(a, .inr (1, [.ref b, .int (nI fr)])), (b, .inl (cY 0, 256, .inl (upd (m_nf g) (nI ((16 * rw) + cl)).toNatClampNeg (nI v))))] H6 := hP
              have hD : va_D A [(a, .inr (1, [.ref b, .int (nI fr)])), (b, .inl (cY 0, 256, .inl (upd (m_nf g) (nI ((16 * rw) + cl)).toNatClampNeg (nI v))))] := hD
              rw [m_upd (g := g) (n := (16 * rw) + cl) (v := v) (by omega)] at hP hD
              have hP : va_P D vwCl [(a, .inr (1, [.ref b, .int (nI fr)])), (b, .inl (cY 0, 256, .inl (m_nf (m_up g ((16 * rw) + cl) v))))] H6 := hP
              have hD : va_D A [(a, .inr (1, [.ref b, .int (nI fr)])), (b, .inl (cY 0, 256, .inl (m_nf (m_up g ((16 * rw) + cl) v))))] := hD
              refine lv_iinc (v := nI (cl + 1)) (lv' := [(2, .int (nI (cl + 1))), (0, .ref a), (1, .int (nI rw)), (3, .int (nI (n_sc nm rw cl rw))), (4, .int (nI v))]) hx hb dX1_fillRow_54 hl (k := 2) rfl (nI_add _ 1) (by decide) rfl (fun ls hl => ?_)
              refine lv_goto (tgt := 2) hx hb dX1_fillRow_57 (by decide) ?_
              exact ih2 (cl + 1) (m_up g ((16 * rw) + cl) v) _ _ ls (by first | assumption | omega) (by first | exact n_tg_put hg (by omega) (n_mex_is hrw (by omega) hv (Or.inl (by omega))) | exact n_tg_put hg (by omega) (n_mex_is hrw (by omega) hv (Or.inr (fun q => c32 ((n_tb _ v).mpr q))))) (by omega) hP hD hS (lv_sub hl [1, 2, 0] rfl)
            · have c22 : ¬ (16 ≤ v) := fun q => c22 ((nI_leI (a := 16) (b := v) (by first | omega | exact Nat.lt_of_le_of_lt Nat.and_le_right (by decide) | exact Nat.lt_trans (nm_lt _ _) (by decide) | exact Nat.lt_trans (np_lt _ _) (by decide)) (by first | omega | exact Nat.lt_of_le_of_lt Nat.and_le_right (by decide) | exact Nat.lt_trans (nm_lt _ _) (by decide) | exact Nat.lt_trans (np_lt _ _) (by decide))).mpr q)
              refine lv_iload_n hx hb dX1_fillRow_25 rfl (lv_at hl 3 rfl) ?_
              refine lv_iload hx hb dX1_fillRow_26 (lv_at hl 4 rfl) ?_
              refine lv_ishr hx hb dX1_fillRow_28 ?_
              refine lv_topi (nm_r (m_shr _ _ (by omega) (by omega)) ?_)
              refine lv_iconst (v := nI 1) hx hb dX1_fillRow_29 (by decide) ?_
              refine lv_iand hx hb dX1_fillRow_30 ?_
              refine lv_topi (nm_r (nx_and _ _) ?_)
              refine lv_iconst (v := nI 1) hx hb dX1_fillRow_31 (by decide) ?_
              refine lv_icmp_ne (tgt := 41) hx hb dX1_fillRow_32 (by decide) (fun c32 => ?_) (fun c32 => ?_)
              · have c32 : ¬ ((((n_sc nm rw cl rw) >>> v) &&& 1) = 1) := fun q => c32 ((nI_eq (a := (((n_sc nm rw cl rw) >>> v) &&& 1)) (b := 1) (by first | omega | exact Nat.lt_of_le_of_lt Nat.and_le_right (by decide) | exact Nat.lt_trans (nm_lt _ _) (by decide) | exact Nat.lt_trans (np_lt _ _) (by decide)) (by first | omega | exact Nat.lt_of_le_of_lt Nat.and_le_right (by decide) | exact Nat.lt_trans (nm_lt _ _) (by decide) | exact Nat.lt_trans (np_lt _ _) (by decide))).mpr q)
                refine lv_aload_n hx hb dX1_fillRow_41 rfl (lv_at hl 0 rfl) ?_
                refine va_get (D := D) (ci := 1) (v := .ref b) (C := RX1) (T := TX1) (N := 2) hx hb hts hw1 hown hK hP 0 rfl rfl 0 (by decide) hw0 (fun _ h9 => h9) rfl dX1_fillRow_42 ?_
                refine lv_bipush (v := nI 16) hx hb dX1_fillRow_45 (by decide) ?_
                refine lv_iload_n hx hb dX1_fillRow_47 rfl (lv_at hl 1 rfl) ?_
                refine lv_imul hx hb dX1_fillRow_48 ?_
                refine lv_topi (nm_r (pk_mul _ _) ?_)
                refine lv_iload_n hx hb dX1_fillRow_49 rfl (lv_at hl 2 rfl) ?_
                refine lv_iadd hx hb dX1_fillRow_50 ?_
                refine lv_topi (nm_r (nI_add _ _) ?_)
                refine lv_iload hx hb dX1_fillRow_51 (lv_at hl 4 rfl) ?_
                refine va_iast hx hb hK hP hD hS 1 0 rfl rfl (m_in (n := (16 * rw) + cl) (by first | assumption | omega) (by decide)) dX1_fillRow_53 (fun H7 locs hP hD hS => ?_)
                have hP : va_P D vwCl [(a, .inr (1, [.ref b, .int (nI fr)])), (b, .inl (cY 0, 256, .inl (upd (m_nf g) (nI ((16 * rw) + cl)).toNatClampNeg (nI v))))] H7 := hP
                have hD : va_D A [(a, .inr (1, [.ref b, .int (nI fr)])), (b, .inl (cY 0, 256, .inl (upd (m_nf g) (nI ((16 * rw) + cl)).toNatClampNeg (nI v))))] := hD
                rw [m_upd (g := g) (n := (16 * rw) + cl) (v := v) (by omega)] at hP hD
                have hP : va_P D vwCl [(a, .inr (1, [.ref b, .int (nI fr)])), (b, .inl (cY 0, 256, .inl (m_nf (m_up g ((16 * rw) + cl) v))))] H7 := hP
                have hD : va_D A [(a, .inr (1, [.ref b, .int (nI fr)])), (b, .inl (cY 0, 256, .inl (m_nf (m_up g ((16 * rw) + cl) v))))] := hD
                refine lv_iinc (v := nI (cl + 1)) (lv' := [(2, .int (nI (cl + 1))), (0, .ref a), (1, .int (nI rw)), (3, .int (nI (n_sc nm rw cl rw))), (4, .int (nI v))]) hx hb dX1_fillRow_54 hl (k := 2) rfl (nI_add _ 1) (by decide) rfl (fun ls hl => ?_)
                refine lv_goto (tgt := 2) hx hb dX1_fillRow_57 (by decide) ?_
                exact ih2 (cl + 1) (m_up g ((16 * rw) + cl) v) _ _ ls (by first | assumption | omega) (by first | exact n_tg_put hg (by omega) (n_mex_is hrw (by omega) hv (Or.inl (by omega))) | exact n_tg_put hg (by omega) (n_mex_is hrw (by omega) hv (Or.inr (fun q => c32 ((n_tb _ v).mpr q))))) (by omega) hP hD hS (lv_sub hl [1, 2, 0] rfl)
              · have c32 : (((n_sc nm rw cl rw) >>> v) &&& 1) = 1 := (nI_eq (a := (((n_sc nm rw cl rw) >>> v) &&& 1)) (b := 1) (by first | omega | exact Nat.lt_of_le_of_lt Nat.and_le_right (by decide) | exact Nat.lt_trans (nm_lt _ _) (by decide) | exact Nat.lt_trans (np_lt _ _) (by decide)) (by first | omega | exact Nat.lt_of_le_of_lt Nat.and_le_right (by decide) | exact Nat.lt_trans (nm_lt _ _) (by decide) | exact Nat.lt_trans (np_lt _ _) (by decide))).mp c32
                refine lv_iinc (v := nI (v + 1)) (lv' := [(4, .int (nI (v + 1))), (0, .ref a), (1, .int (nI rw)), (2, .int (nI cl)), (3, .int (nI (n_sc nm rw cl rw)))]) hx hb dX1_fillRow_35 hl (k := 4) rfl (nI_add _ 1) (by decide) rfl (fun ls hl => ?_)
                refine lv_goto (tgt := 18) hx hb dX1_fillRow_38 (by decide) ?_
                exact ih18 (v + 1) _ _ ls (by first | assumption | omega) (fun k hk => by (by_cases q : k = v); { subst q; exact (n_tb _ k).mp c32 }; { exact hv k (by omega) }) (by omega) hP hD hS (lv_sub hl [1, 2, 3, 4, 0] rfl)
        exact lp18_5 _ 0 _ _ ls (by first | assumption | omega) (fun k hk => by omega) (Nat.lt_succ_self _) hP hD hS (lv_sub hl [2, 3, 4, 1, 0] rfl)
  exact lp2_1 _ 0 f _ _ ls (by first | assumption | omega) (⟨hf, fun j hj => by omega⟩) (Nat.lt_succ_self _) hP hD hS (lv_sub hl [1, 2, 0] rfl)
set_option maxHeartbeats 4000000 in
set_option maxRecDepth 100000 in
theorem c_X1_cell (l : Launch) (D : va_G) (cY : Nat → ClassId) (a b fr : Nat) (f : Nat → Nat) (rw cl : Nat) (hrw : rw < 16) (hcl : cl < 16) (hfr : fr ≤ 16) (hf : n_tf fr f) : m_Mi l yX1_cell wsX1_cell 2 50 D cY [.ref a, .int (nI rw), .int (nI cl)] [(a, .inr (1, [.ref b, .int (nI fr)])), (b, .inl (cY 0, 256, .inl (m_nf f)))] (fun (res : Int32) (u : Nat × (Nat → Nat)) => (res = nI (nm rw cl)) ∧ (u.1 ≤ 16) ∧ (n_tf u.1 u.2)) (fun (u : Nat × (Nat → Nat)) => [(a, .inr (1, [.ref b, .int (nI u.1)])), (b, .inl (cY 0, 256, .inl (m_nf u.2)))]) := by
  refine m_enterI (cc := cX1_cell) (maxL := 4) (ret := (some .int)) (by decide +kernel) rfl (Nat.le_of_ble_eq_true rfl) ?_
  intro p e s m below meth c A ls C0 hP hD hl
  obtain ⟨hx, hb, hr, hml, hts, hown, hlocks, hK, hA⟩ := id C0
  generalize hQ : MQ below _ _ s 0 0 A = Q
  have hS : va_S A s.heap s.heap [] := va_S.rf
  have hl : lv_has ls 4 [(0, .ref a), (1, .int (nI rw)), (2, .int (nI cl))] := hl
  have hw0 := hts (.fieldLink RX1 15 "NimberField$LeastNumberTable" "filledRows" "I") (by decide +kernel)
  have hw1 := (show ∀ w ∈ u_ws RX1 TX1 2, w ∈ wsX1_cell from by decide +kernel)
  have hw2 := hts (.fieldLink RX1 11 "NimberField$LeastNumberTable" "cells" "[I") (by decide +kernel)
  refine lv_iload_n hx hb dX1_cell_0 rfl (lv_at hl 1 rfl) ?_
  refine lv_if_lt (tgt := 20) hx hb dX1_cell_1 (by decide) (fun c1 => ?_) (fun c1 => ?_)
  · have c1 : rw < 0 := (nI_ltI (a := rw) (b := 0) (by first | omega | exact Nat.lt_of_le_of_lt Nat.and_le_right (by decide) | exact Nat.lt_trans (nm_lt _ _) (by decide) | exact Nat.lt_trans (np_lt _ _) (by decide)) (by first | omega | exact Nat.lt_of_le_of_lt Nat.and_le_right (by decide) | exact Nat.lt_trans (nm_lt _ _) (by decide) | exact Nat.lt_trans (np_lt _ _) (by decide))).mp c1
    exfalso; omega
  · have c1 : ¬ (rw < 0) := fun q => c1 ((nI_ltI (a := rw) (b := 0) (by first | omega | exact Nat.lt_of_le_of_lt Nat.and_le_right (by decide) | exact Nat.lt_trans (nm_lt _ _) (by decide) | exact Nat.lt_trans (np_lt _ _) (by decide)) (by first | omega | exact Nat.lt_of_le_of_lt Nat.and_le_right (by decide) | exact Nat.lt_trans (nm_lt _ _) (by decide) | exact Nat.lt_trans (np_lt _ _) (by decide))).mpr q)
    refine lv_iload_n hx hb dX1_cell_4 rfl (lv_at hl 1 rfl) ?_
    refine lv_bipush (v := nI 16) hx hb dX1_cell_5 (by decide) ?_
    refine lv_icmp_ge (tgt := 20) hx hb dX1_cell_7 (by decide) (fun c7 => ?_) (fun c7 => ?_)
    · have c7 : 16 ≤ rw := (nI_leI (a := 16) (b := rw) (by first | omega | exact Nat.lt_of_le_of_lt Nat.and_le_right (by decide) | exact Nat.lt_trans (nm_lt _ _) (by decide) | exact Nat.lt_trans (np_lt _ _) (by decide)) (by first | omega | exact Nat.lt_of_le_of_lt Nat.and_le_right (by decide) | exact Nat.lt_trans (nm_lt _ _) (by decide) | exact Nat.lt_trans (np_lt _ _) (by decide))).mp c7
      exfalso; omega
    · have c7 : ¬ (16 ≤ rw) := fun q => c7 ((nI_leI (a := 16) (b := rw) (by first | omega | exact Nat.lt_of_le_of_lt Nat.and_le_right (by decide) | exact Nat.lt_trans (nm_lt _ _) (by decide) | exact Nat.lt_trans (np_lt _ _) (by decide)) (by first | omega | exact Nat.lt_of_le_of_lt Nat.and_le_right (by decide) | exact Nat.lt_trans (nm_lt _ _) (by decide) | exact Nat.lt_trans (np_lt _ _) (by decide))).mpr q)
      refine lv_iload_n hx hb dX1_cell_10 rfl (lv_at hl 2 rfl) ?_
      refine lv_if_lt (tgt := 20) hx hb dX1_cell_11 (by decide) (fun c11 => ?_) (fun c11 => ?_)
      · have c11 : cl < 0 := (nI_ltI (a := cl) (b := 0) (by first | omega | exact Nat.lt_of_le_of_lt Nat.and_le_right (by decide) | exact Nat.lt_trans (nm_lt _ _) (by decide) | exact Nat.lt_trans (np_lt _ _) (by decide)) (by first | omega | exact Nat.lt_of_le_of_lt Nat.and_le_right (by decide) | exact Nat.lt_trans (nm_lt _ _) (by decide) | exact Nat.lt_trans (np_lt _ _) (by decide))).mp c11
        exfalso; omega
      · have c11 : ¬ (cl < 0) := fun q => c11 ((nI_ltI (a := cl) (b := 0) (by first | omega | exact Nat.lt_of_le_of_lt Nat.and_le_right (by decide) | exact Nat.lt_trans (nm_lt _ _) (by decide) | exact Nat.lt_trans (np_lt _ _) (by decide)) (by first | omega | exact Nat.lt_of_le_of_lt Nat.and_le_right (by decide) | exact Nat.lt_trans (nm_lt _ _) (by decide) | exact Nat.lt_trans (np_lt _ _) (by decide))).mpr q)
        refine lv_iload_n hx hb dX1_cell_14 rfl (lv_at hl 2 rfl) ?_
        refine lv_bipush (v := nI 16) hx hb dX1_cell_15 (by decide) ?_
        refine lv_icmp_lt (tgt := 22) hx hb dX1_cell_17 (by decide) (fun c17 => ?_) (fun c17 => ?_)
        · have c17 : cl < 16 := (nI_ltI (a := cl) (b := 16) (by first | omega | exact Nat.lt_of_le_of_lt Nat.and_le_right (by decide) | exact Nat.lt_trans (nm_lt _ _) (by decide) | exact Nat.lt_trans (np_lt _ _) (by decide)) (by first | omega | exact Nat.lt_of_le_of_lt Nat.and_le_right (by decide) | exact Nat.lt_trans (nm_lt _ _) (by decide) | exact Nat.lt_trans (np_lt _ _) (by decide))).mp c17
          refine lv_aload_n hx hb dX1_cell_22 rfl (lv_at hl 0 rfl) ?_
          refine va_get (D := D) (ci := 1) (v := .int (nI fr)) (C := RX1) (T := TX1) (N := 2) hx hb hts hw1 hown hK hP 0 rfl rfl 1 (by decide) hw0 (fun _ h9 => h9) rfl dX1_cell_23 ?_
          refine lv_istore_n (lv' := [(3, .int (nI fr)), (0, .ref a), (1, .int (nI rw)), (2, .int (nI cl))]) hx hb dX1_cell_26 rfl hl (by decide) rfl (fun ls hl => ?_)
          have lp27_1 : ∀ (nn : Nat) (k : Nat) (g : Nat → Nat) (H : Heap) (locs : List Loc) (ls : Array Slot), (k ≤ 16) → (n_tf k g) → rw + 1 - k < nn → va_P D vwCl [(a, .inr (1, [.ref b, .int (nI k)])), (b, .inl (cY 0, 256, .inl (m_nf g)))] H → va_D A [(a, .inr (1, [.ref b, .int (nI k)])), (b, .inl (cY 0, 256, .inl (m_nf g)))] → va_S A s.heap H locs → lv_has ls 4 [(0, .ref a), (1, .int (nI rw)), (2, .int (nI cl)), (3, .int (nI k))] → W p l e { frames := 2, cells := 0, slots := 0, locals := 50 } s m ([.ref a, .int (nI rw), .int (nI cl)] : List Value).toArray below meth c H locs 0 0 Q (F0 m 27 ls []) := by
            intro nn
            induction nn with
            | zero => intros; omega
            | succ nn ih27 =>
              intro k g H locs ls hk hg hmz hP hD hS hl
              refine lv_iload_n hx hb dX1_cell_27 rfl (lv_at hl 3 rfl) ?_
              refine lv_iload_n hx hb dX1_cell_28 rfl (lv_at hl 1 rfl) ?_
              refine lv_icmp_gt (tgt := 50) hx hb dX1_cell_29 (by decide) (fun c29 => ?_) (fun c29 => ?_)
              · have c29 : rw < k := (nI_ltI (a := rw) (b := k) (by first | omega | exact Nat.lt_of_le_of_lt Nat.and_le_right (by decide) | exact Nat.lt_trans (nm_lt _ _) (by decide) | exact Nat.lt_trans (np_lt _ _) (by decide)) (by first | omega | exact Nat.lt_of_le_of_lt Nat.and_le_right (by decide) | exact Nat.lt_trans (nm_lt _ _) (by decide) | exact Nat.lt_trans (np_lt _ _) (by decide))).mp c29
                refine lv_aload_n hx hb dX1_cell_50 rfl (lv_at hl 0 rfl) ?_
                refine va_get (D := D) (ci := 1) (v := .ref b) (C := RX1) (T := TX1) (N := 2) hx hb hts hw1 hown hK hP 0 rfl rfl 0 (by decide) hw2 (fun _ h9 => h9) rfl dX1_cell_51 ?_
                refine lv_bipush (v := nI 16) hx hb dX1_cell_54 (by decide) ?_
                refine lv_iload_n hx hb dX1_cell_56 rfl (lv_at hl 1 rfl) ?_
                refine lv_imul hx hb dX1_cell_57 ?_
                refine lv_topi (nm_r (pk_mul _ _) ?_)
                refine lv_iload_n hx hb dX1_cell_58 rfl (lv_at hl 2 rfl) ?_
                refine lv_iadd hx hb dX1_cell_59 ?_
                refine lv_topi (nm_r (nI_add _ _) ?_)
                refine va_iald hx hb hK hP 1 0 rfl rfl (m_in (n := (16 * rw) + cl) (by first | assumption | omega) (by decide)) dX1_cell_60 ?_
                refine lv_topi (nm_r (m_ldn (g := g) (n := (16 * rw) + cl) (by omega)) ?_)
                subst hQ
                exact m_iret C0 hS dX1_cell_61 (u := (k, g)) hP (⟨by rw [hg rw cl (by omega) hcl], hk, hg⟩)
              · have c29 : ¬ (rw < k) := fun q => c29 ((nI_ltI (a := rw) (b := k) (by first | omega | exact Nat.lt_of_le_of_lt Nat.and_le_right (by decide) | exact Nat.lt_trans (nm_lt _ _) (by decide) | exact Nat.lt_trans (np_lt _ _) (by decide)) (by first | omega | exact Nat.lt_of_le_of_lt Nat.and_le_right (by decide) | exact Nat.lt_trans (nm_lt _ _) (by decide) | exact Nat.lt_trans (np_lt _ _) (by decide))).mpr q)
                refine lv_aload_n hx hb dX1_cell_32 rfl (lv_at hl 0 rfl) ?_
                refine lv_iload_n hx hb dX1_cell_33 rfl (lv_at hl 3 rfl) ?_
                refine m_callVv (As := [.int (nI k)]) (rest := []) C0 hl hP hD hS (c_X1_fillRow l D cY a b k g k (by first | assumption | omega | exact nm_lt _ _ | exact np_lt _ _ | decide) (by first | assumption | omega | exact nm_lt _ _ | exact np_lt _ _ | decide)) (cwV 1 hts gX1_cell_X1_fillRow rfl rfl rfl (by decide +kernel) ⟨Nat.le_of_ble_eq_true rfl, Nat.le_of_ble_eq_true rfl⟩) dX1_cell_34 [0, 1] rfl rfl 0 rfl rfl rfl rfl (Nat.le_of_ble_eq_true rfl) (Nat.zero_le _) (Nat.zero_le _) (fun _ => rfl) (fun u H2 locs hw hP hD hS => ?_)
                obtain ⟨f9_3, rfl⟩ : ∃ z, z = u := ⟨_, rfl⟩
                try dsimp only at hw
                have hq4 := hw
                have hP : va_P D vwCl [(a, .inr (1, [.ref b, .int (nI k)])), (b, .inl (cY 0, 256, .inl (m_nf f9_3)))] H2 := hP
                have hD : va_D A [(a, .inr (1, [.ref b, .int (nI k)])), (b, .inl (cY 0, 256, .inl (m_nf f9_3)))] := hD
                refine lv_aload_n hx hb dX1_cell_37 rfl (lv_at hl 0 rfl) ?_
                refine lv_iload_n hx hb dX1_cell_38 rfl (lv_at hl 3 rfl) ?_
                refine lv_iconst (v := nI 1) hx hb dX1_cell_39 (by decide) ?_
                refine lv_iadd hx hb dX1_cell_40 ?_
                refine lv_topi (nm_r (nI_add _ _) ?_)
                refine va_put (D := D) (ci := 1) (v := .int (nI (k + 1))) (ty := .int) (C := RX1) (T := TX1) (N := 2) hx hb hts hw1 tyX1 tyX1_ok nmX1 hown hK hP hD hS 0 rfl rfl 1 (by decide) hw0 (fun _ h9 => h9) rfl (by decide +kernel) rfl rfl (Nat.le_of_ble_eq_true rfl) dX1_cell_41 (fun H5 locs hP hD hS => ?_)
                have hP : va_P D vwCl [(a, .inr (1, [.ref b, .int (nI (k + 1))])), (b, .inl (cY 0, 256, .inl (m_nf f9_3)))] H5 := hP
                have hD : va_D A [(a, .inr (1, [.ref b, .int (nI (k + 1))])), (b, .inl (cY 0, 256, .inl (m_nf f9_3)))] := hD
                refine lv_iinc (v := nI (k + 1)) (lv' := [(3, .int (nI (k + 1))), (0, .ref a), (1, .int (nI rw)), (2, .int (nI cl))]) hx hb dX1_cell_44 hl (k := 3) rfl (nI_add _ 1) (by decide) rfl (fun ls hl => ?_)
                refine lv_goto (tgt := 27) hx hb dX1_cell_47 (by decide) ?_
                exact ih27 (k + 1) f9_3 _ _ ls (by first | assumption | omega) (hq4) (by omega) hP hD hS (lv_sub hl [1, 2, 3, 0] rfl)
          exact lp27_1 _ fr f _ _ ls (by first | assumption | omega) (by first | assumption | omega) (Nat.lt_succ_self _) hP hD hS (lv_sub hl [1, 2, 3, 0] rfl)
        · have c17 : ¬ (cl < 16) := fun q => c17 ((nI_ltI (a := cl) (b := 16) (by first | omega | exact Nat.lt_of_le_of_lt Nat.and_le_right (by decide) | exact Nat.lt_trans (nm_lt _ _) (by decide) | exact Nat.lt_trans (np_lt _ _) (by decide)) (by first | omega | exact Nat.lt_of_le_of_lt Nat.and_le_right (by decide) | exact Nat.lt_trans (nm_lt _ _) (by decide) | exact Nat.lt_trans (np_lt _ _) (by decide))).mpr q)
          exfalso; omega
