set_option maxHeartbeats 4000000 in
set_option maxRecDepth 100000 in
theorem c_X3_read (l : Launch) (D : va_G) (cY : Nat → ClassId) (pr tp sp len sc cur : Nat) (tx : Nat → Nat) (sa : Nat → Nat) (pt pg pf pe : Nat → Int32) (hlen : len ≤ 60) (htx : ∀ j, tx j < 65536) : m_Mi l yX3_read wsX3_read 4 87 D cY [.ref pr] ([(pr, .inr (3, [.ref tp, .ref sp, .int (nI len), .int (nI sc), .int (nI cur)])), (tp, .inl (cY 1, 60, .inl (m_nf tx))), (sp, .inl (cY 4, 15, .inr (.inr (.inr (.inr (m_sa sa))))))] ++ m_pool sa pt pg pf pe) (fun (res : Int32) (u : Nat × Nat × (Nat → Int32) × (Nat → Int32) × (Nat → Int32) × (Nat → Int32)) => (∃ w, res = nI w ∧ w ≤ 60 ∧ p_prog tx len 15 0 = .inl w) ∨ (∃ ps, res = -1 ∧ p_prog tx len 15 0 = .inr ps ∧ u.1 = ps.length ∧ ps.length ≤ 15 ∧ 1 ≤ ps.length ∧ p_held ps u.2.2.1 u.2.2.2.1 u.2.2.2.2.1 u.2.2.2.2.2)) (fun (u : Nat × Nat × (Nat → Int32) × (Nat → Int32) × (Nat → Int32) × (Nat → Int32)) => ([(pr, .inr (3, [.ref tp, .ref sp, .int (nI len), .int (nI u.1), .int (nI u.2.1)])), (tp, .inl (cY 1, 60, .inl (m_nf tx))), (sp, .inl (cY 4, 15, .inr (.inr (.inr (.inr (m_sa sa))))))] ++ m_pool sa u.2.2.1 u.2.2.2.1 u.2.2.2.2.1 u.2.2.2.2.2)) := by
  refine m_enterI (cc := cX3_read) (maxL := 1) (ret := (some .int)) (by decide +kernel) rfl (Nat.le_of_ble_eq_true rfl) ?_
  intro p e s m below meth c A ls C0 hP hD hl
  obtain ⟨hx, hb, hr, hml, hts, hown, hlocks, hK, hA⟩ := id C0
  generalize hQ : MQ below _ _ s 0 0 A = Q
  have hS : va_S A s.heap s.heap [] := va_S.rf
  have hl : lv_has ls 1 [(0, .ref pr)] := hl
  have hw0 := hts (.fieldLink RX3 26 "NimberField$Program" "cursor" "I") (by decide +kernel)
  have hw1 := (show ∀ w ∈ u_ws RX3 TX3 5, w ∈ wsX3_read from by decide +kernel)
  have hw2 := hts (.fieldLink RX3 29 "NimberField$Program" "stepCount" "I") (by decide +kernel)
  have hw3 := hts (.fieldLink RX3 17 "NimberField$Program" "steps" "[LNimberField$Step;") (by decide +kernel)
  have hw4 := hts (.fieldLink RX3 22 "NimberField$Program" "length" "I") (by decide +kernel)
  refine lv_aload_n hx hb dX3_read_0 rfl (lv_at hl 0 rfl) ?_
  refine lv_iconst (v := nI 0) hx hb dX3_read_1 (by decide) ?_
  refine va_put (D := D) (ci := 3) (v := .int (nI 0)) (ty := .int) (C := RX3) (T := TX3) (N := 5) hx hb hts hw1 tyX3 tyX3_ok nmX3 hown hK hP hD hS 0 rfl rfl 4 (by decide) hw0 (fun _ h9 => h9) rfl (by decide +kernel) rfl rfl (Nat.le_of_ble_eq_true rfl) dX3_read_2 (fun H1 locs hP hD hS => ?_)
  have hP : va_P D vwCl ([(pr, .inr (3, [.ref tp, .ref sp, .int (nI len), .int (nI sc), .int (nI 0)])), (tp, .inl (cY 1, 60, .inl (m_nf tx))), (sp, .inl (cY 4, 15, .inr (.inr (.inr (.inr (m_sa sa))))))] ++ m_pool sa pt pg pf pe) H1 := hP
  have hD : va_D A ([(pr, .inr (3, [.ref tp, .ref sp, .int (nI len), .int (nI sc), .int (nI 0)])), (tp, .inl (cY 1, 60, .inl (m_nf tx))), (sp, .inl (cY 4, 15, .inr (.inr (.inr (.inr (m_sa sa))))))] ++ m_pool sa pt pg pf pe) := hD
  refine lv_aload_n hx hb dX3_read_5 rfl (lv_at hl 0 rfl) ?_
  refine lv_iconst (v := nI 0) hx hb dX3_read_6 (by decide) ?_
  refine va_put (D := D) (ci := 3) (v := .int (nI 0)) (ty := .int) (C := RX3) (T := TX3) (N := 5) hx hb hts hw1 tyX3 tyX3_ok nmX3 hown hK hP hD hS 0 rfl rfl 3 (by decide) hw2 (fun _ h9 => h9) rfl (by decide +kernel) rfl rfl (Nat.le_of_ble_eq_true rfl) dX3_read_7 (fun H2 locs hP hD hS => ?_)
  have hP : va_P D vwCl ([(pr, .inr (3, [.ref tp, .ref sp, .int (nI len), .int (nI 0), .int (nI 0)])), (tp, .inl (cY 1, 60, .inl (m_nf tx))), (sp, .inl (cY 4, 15, .inr (.inr (.inr (.inr (m_sa sa))))))] ++ m_pool sa pt pg pf pe) H2 := hP
  have hD : va_D A ([(pr, .inr (3, [.ref tp, .ref sp, .int (nI len), .int (nI 0), .int (nI 0)])), (tp, .inl (cY 1, 60, .inl (m_nf tx))), (sp, .inl (cY 4, 15, .inr (.inr (.inr (.inr (m_sa sa))))))] ++ m_pool sa pt pg pf pe) := hD
  have lp10_3 : ∀ (nn : Nat) (k : Nat) (cu : Nat) (t1 : Nat → Int32) (g1 : Nat → Int32) (f1 : Nat → Int32) (y1 : Nat → Int32) (done : List p_St) (H : Heap) (locs : List Loc) (ls : Array Slot), (k ≤ 15) → (cu ≤ len) → (done.length = k) → (p_held done t1 g1 f1 y1) → (p_prog tx len 15 0 = p_cont done (p_prog tx len (15 - k) cu)) → 15 - k < nn → va_P D vwCl ([(pr, .inr (3, [.ref tp, .ref sp, .int (nI len), .int (nI k), .int (nI cu)])), (tp, .inl (cY 1, 60, .inl (m_nf tx))), (sp, .inl (cY 4, 15, .inr (.inr (.inr (.inr (m_sa sa))))))] ++ m_pool sa t1 g1 f1 y1) H → va_D A ([(pr, .inr (3, [.ref tp, .ref sp, .int (nI len), .int (nI k), .int (nI cu)])), (tp, .inl (cY 1, 60, .inl (m_nf tx))), (sp, .inl (cY 4, 15, .inr (.inr (.inr (.inr (m_sa sa))))))] ++ m_pool sa t1 g1 f1 y1) → va_S A s.heap H locs → lv_has ls 1 [(0, .ref pr)] → W p l e { frames := 4, cells := 0, slots := 0, locals := 87 } s m ([.ref pr] : List Value).toArray below meth c H locs 0 0 Q (F0 m 10 ls []) := by
    intro nn
    induction nn with
    | zero => intros; omega
    | succ nn ih10 =>
      intro k cu t1 g1 f1 y1 done H locs ls hk hcu hdl hheld hpr hmz hP hD hS hl
      refine lv_aload_n hx hb dX3_read_10 rfl (lv_at hl 0 rfl) ?_
      refine va_get (D := D) (ci := 3) (v := .int (nI k)) (C := RX3) (T := TX3) (N := 5) hx hb hts hw1 hown hK hP 0 rfl rfl 3 (by decide) hw2 (fun _ h9 => h9) rfl dX3_read_11 ?_
      refine lv_bipush (v := nI 15) hx hb dX3_read_14 (by decide) ?_
      refine lv_icmp_ge (tgt := 93) hx hb dX3_read_16 (by decide) (fun c16 => ?_) (fun c16 => ?_)
      · have c16 : 15 ≤ k := (nI_leI (a := 15) (b := k) (by first | omega | exact Nat.lt_of_le_of_lt Nat.and_le_right (by decide) | exact Nat.lt_trans (nm_lt _ _) (by decide) | exact Nat.lt_trans (np_lt _ _) (by decide) | exact Nat.lt_trans (p_at_lt htx) (by decide)) (by first | omega | exact Nat.lt_of_le_of_lt Nat.and_le_right (by decide) | exact Nat.lt_trans (nm_lt _ _) (by decide) | exact Nat.lt_trans (np_lt _ _) (by decide) | exact Nat.lt_trans (p_at_lt htx) (by decide))).mp c16
        refine lv_aload_n hx hb dX3_read_93 rfl (lv_at hl 0 rfl) ?_
        refine va_get (D := D) (ci := 3) (v := .int (nI cu)) (C := RX3) (T := TX3) (N := 5) hx hb hts hw1 hown hK hP 0 rfl rfl 4 (by decide) hw0 (fun _ h9 => h9) rfl dX3_read_94 ?_
        subst hQ
        exact m_iret C0 hS dX3_read_97 (u := (k, cu, t1, g1, f1, y1)) hP (Or.inl ⟨cu, rfl, by omega, by rw [hpr, show 15 - k = 0 by omega]; rfl⟩)
      · have c16 : ¬ (15 ≤ k) := fun q => c16 ((nI_leI (a := 15) (b := k) (by first | omega | exact Nat.lt_of_le_of_lt Nat.and_le_right (by decide) | exact Nat.lt_trans (nm_lt _ _) (by decide) | exact Nat.lt_trans (np_lt _ _) (by decide) | exact Nat.lt_trans (p_at_lt htx) (by decide)) (by first | omega | exact Nat.lt_of_le_of_lt Nat.and_le_right (by decide) | exact Nat.lt_trans (nm_lt _ _) (by decide) | exact Nat.lt_trans (np_lt _ _) (by decide) | exact Nat.lt_trans (p_at_lt htx) (by decide))).mpr q)
        refine lv_aload_n hx hb dX3_read_19 rfl (lv_at hl 0 rfl) ?_
        refine lv_aload_n hx hb dX3_read_20 rfl (lv_at hl 0 rfl) ?_
        refine va_get (D := D) (ci := 3) (v := .ref sp) (C := RX3) (T := TX3) (N := 5) hx hb hts hw1 hown hK hP 0 rfl rfl 1 (by decide) hw3 (fun _ h9 => h9) rfl dX3_read_21 ?_
        refine lv_aload_n hx hb dX3_read_24 rfl (lv_at hl 0 rfl) ?_
        refine va_get (D := D) (ci := 3) (v := .int (nI k)) (C := RX3) (T := TX3) (N := 5) hx hb hts hw1 hown hK hP 0 rfl rfl 3 (by decide) hw2 (fun _ h9 => h9) rfl dX3_read_25 ?_
        refine va_aldq hx hb hK hP 2 4 rfl rfl (m_in (n := k) (by first | assumption | omega) (by decide)) dX3_read_28 ?_
        refine m_top (show va_rf (m_sa sa (nI k).toNatClampNeg) = .ref (sa k) from by rw [nI_clamp (by omega)]; rfl) ?_
        refine m_callVi (As := [.ref (sa k)]) (rest := []) C0 hl hP hD hS (c_X3_readTarget l D cY pr tp sp len k cu tx (sa k) (t1 k) (g1 k) (f1 k) (y1 k) (by first | assumption | omega | exact nm_lt _ _ | exact np_lt _ _ | decide) (by first | assumption | omega | exact nm_lt _ _ | exact np_lt _ _ | decide) (by first | assumption | omega | exact nm_lt _ _ | exact np_lt _ _ | decide)) (cwV 1 hts gX3_read_X3_readTarget rfl rfl rfl (by decide +kernel) ⟨Nat.le_of_ble_eq_true rfl, Nat.le_of_ble_eq_true rfl⟩) dX3_read_29 [0, 1, (3 + k)] (by simp only [List.map_cons, List.map_nil]; rw [m_pl_at (n := 3) rfl (by omega)] <;> rfl) (by simp [va_nd] <;> omega) 0 rfl rfl rfl rfl (Nat.le_of_ble_eq_true rfl) (Nat.zero_le _) (Nat.zero_le _) (fun _ => rfl) (fun r7 u H4 locs hw hP hD hS => ?_)
        obtain ⟨cur9_5, t9_6⟩ := u
        try dsimp only at hw
        have hq8 := hw; clear hw
        have hP : va_P D vwCl (List.set ([(pr, .inr (3, [.ref tp, .ref sp, .int (nI len), .int (nI k), .int (nI cur9_5)])), (tp, .inl (cY 1, 60, .inl (m_nf tx))), (sp, .inl (cY 4, 15, .inr (.inr (.inr (.inr (m_sa sa))))))] ++ m_pool sa t1 g1 f1 y1) (3 + k) ((sa k), .inr (5, [.int t9_6, .int (g1 k), .int (f1 k), .int (y1 k)]))) H4 := hP
        have hD : va_D A (List.set ([(pr, .inr (3, [.ref tp, .ref sp, .int (nI len), .int (nI k), .int (nI cur9_5)])), (tp, .inl (cY 1, 60, .inl (m_nf tx))), (sp, .inl (cY 4, 15, .inr (.inr (.inr (.inr (m_sa sa))))))] ++ m_pool sa t1 g1 f1 y1) (3 + k) ((sa k), .inr (5, [.int t9_6, .int (g1 k), .int (f1 k), .int (y1 k)]))) := hD
        rw [m_pl_set (n := 3) rfl] at hP hD
        rw [m_upself g1 k] at hP hD
        rw [m_upself f1 k] at hP hD
        rw [m_upself y1 k] at hP hD
        have hP : va_P D vwCl ([(pr, .inr (3, [.ref tp, .ref sp, .int (nI len), .int (nI k), .int (nI cur9_5)])), (tp, .inl (cY 1, 60, .inl (m_nf tx))), (sp, .inl (cY 4, 15, .inr (.inr (.inr (.inr (m_sa sa))))))] ++ m_pool sa (upd t1 k t9_6) g1 f1 y1) H4 := hP
        have hD : va_D A ([(pr, .inr (3, [.ref tp, .ref sp, .int (nI len), .int (nI k), .int (nI cur9_5)])), (tp, .inl (cY 1, 60, .inl (m_nf tx))), (sp, .inl (cY 4, 15, .inr (.inr (.inr (.inr (m_sa sa))))))] ++ m_pool sa (upd t1 k t9_6) g1 f1 y1) := hD
        rcases hq8 with ⟨rfl, hz1, hz2⟩ | ⟨x, rfl, hz1, ht9, hx8, hz2⟩
        · skip
          refine lv_if_eq (tgt := 51) hx hb dX3_read_32 (by decide) (fun c32 => ?_) (fun c32 => ?_)
          · refine lv_aload_n hx hb dX3_read_51 rfl (lv_at hl 0 rfl) ?_
            refine va_get (D := D) (ci := 3) (v := .int (nI cur9_5)) (C := RX3) (T := TX3) (N := 5) hx hb hts hw1 hown hK hP 0 rfl rfl 4 (by decide) hw0 (fun _ h9 => h9) rfl dX3_read_52 ?_
            subst hQ
            exact m_iret C0 hS dX3_read_55 (u := (k, cur9_5, upd t1 k t9_6, g1, f1, y1)) hP (Or.inl ⟨cur9_5, rfl, by omega, by rw [hpr, p_prog_e (by omega) (show p_step tx len cu = .inl cur9_5 from by simp only [p_step, hz1])]; rfl⟩)
          · exact absurd c32 (by decide)
        · skip
          refine lv_if_eq (tgt := 51) hx hb dX3_read_32 (by decide) (fun c32 => ?_) (fun c32 => ?_)
          · exact absurd c32 (by decide)
          · refine lv_aload_n hx hb dX3_read_35 rfl (lv_at hl 0 rfl) ?_
            refine lv_aload_n hx hb dX3_read_36 rfl (lv_at hl 0 rfl) ?_
            refine va_get (D := D) (ci := 3) (v := .ref sp) (C := RX3) (T := TX3) (N := 5) hx hb hts hw1 hown hK hP 0 rfl rfl 1 (by decide) hw3 (fun _ h9 => h9) rfl dX3_read_37 ?_
            refine lv_aload_n hx hb dX3_read_40 rfl (lv_at hl 0 rfl) ?_
            refine va_get (D := D) (ci := 3) (v := .int (nI k)) (C := RX3) (T := TX3) (N := 5) hx hb hts hw1 hown hK hP 0 rfl rfl 3 (by decide) hw2 (fun _ h9 => h9) rfl dX3_read_41 ?_
            refine va_aldq hx hb hK hP 2 4 rfl rfl (m_in (n := k) (by first | assumption | omega) (by decide)) dX3_read_44 ?_
            refine m_top (show va_rf (m_sa sa (nI k).toNatClampNeg) = .ref (sa k) from by rw [nI_clamp (by omega)]; rfl) ?_
            refine m_callVi (As := [.ref (sa k)]) (rest := []) C0 hl hP hD hS (c_X3_readRightSide l D cY pr tp sp len k cur9_5 tx (sa k) ((upd t1 k t9_6) k) (g1 k) (f1 k) (y1 k) (by first | assumption | omega | exact nm_lt _ _ | exact np_lt _ _ | decide) (by first | assumption | omega | exact nm_lt _ _ | exact np_lt _ _ | decide) (by first | assumption | omega | exact nm_lt _ _ | exact np_lt _ _ | decide)) (cwV 1 hts gX3_read_X3_readRightSide rfl rfl rfl (by decide +kernel) ⟨Nat.le_of_ble_eq_true rfl, Nat.le_of_ble_eq_true rfl⟩) dX3_read_45 [0, 1, (3 + k)] (by simp only [List.map_cons, List.map_nil]; rw [m_pl_at (n := 3) rfl (by omega)] <;> rfl) (by simp [va_nd] <;> omega) 0 rfl rfl rfl rfl (Nat.le_of_ble_eq_true rfl) (Nat.zero_le _) (Nat.zero_le _) (fun _ => rfl) (fun r14 u H9 locs hw hP hD hS => ?_)
            obtain ⟨cur9_10, g9_11, fi9_12, se9_13⟩ := u
            try dsimp only at hw
            have hq15 := hw; clear hw
            have hP : va_P D vwCl (List.set ([(pr, .inr (3, [.ref tp, .ref sp, .int (nI len), .int (nI k), .int (nI cur9_10)])), (tp, .inl (cY 1, 60, .inl (m_nf tx))), (sp, .inl (cY 4, 15, .inr (.inr (.inr (.inr (m_sa sa))))))] ++ m_pool sa (upd t1 k t9_6) g1 f1 y1) (3 + k) ((sa k), .inr (5, [.int ((upd t1 k t9_6) k), .int g9_11, .int fi9_12, .int se9_13]))) H9 := hP
            have hD : va_D A (List.set ([(pr, .inr (3, [.ref tp, .ref sp, .int (nI len), .int (nI k), .int (nI cur9_10)])), (tp, .inl (cY 1, 60, .inl (m_nf tx))), (sp, .inl (cY 4, 15, .inr (.inr (.inr (.inr (m_sa sa))))))] ++ m_pool sa (upd t1 k t9_6) g1 f1 y1) (3 + k) ((sa k), .inr (5, [.int ((upd t1 k t9_6) k), .int g9_11, .int fi9_12, .int se9_13]))) := hD
            rw [m_pl_set (n := 3) rfl] at hP hD
            rw [m_upself (upd t1 k t9_6) k] at hP hD
            have hP : va_P D vwCl ([(pr, .inr (3, [.ref tp, .ref sp, .int (nI len), .int (nI k), .int (nI cur9_10)])), (tp, .inl (cY 1, 60, .inl (m_nf tx))), (sp, .inl (cY 4, 15, .inr (.inr (.inr (.inr (m_sa sa))))))] ++ m_pool sa (upd t1 k t9_6) (upd g1 k g9_11) (upd f1 k fi9_12) (upd y1 k se9_13)) H9 := hP
            have hD : va_D A ([(pr, .inr (3, [.ref tp, .ref sp, .int (nI len), .int (nI k), .int (nI cur9_10)])), (tp, .inl (cY 1, 60, .inl (m_nf tx))), (sp, .inl (cY 4, 15, .inr (.inr (.inr (.inr (m_sa sa))))))] ++ m_pool sa (upd t1 k t9_6) (upd g1 k g9_11) (upd f1 k fi9_12) (upd y1 k se9_13)) := hD
            rcases hq15 with ⟨rfl, hr1, hr2⟩ | ⟨ya, yb, yd, rfl, hr1, hg9, hf9, he9, hya, hyb, hyd, hr2⟩
            · skip
              refine lv_if_ne (tgt := 56) hx hb dX3_read_48 (by decide) (fun c48 => ?_) (fun c48 => ?_)
              · exact absurd c48 (by decide)
              · refine lv_aload_n hx hb dX3_read_51 rfl (lv_at hl 0 rfl) ?_
                refine va_get (D := D) (ci := 3) (v := .int (nI cur9_10)) (C := RX3) (T := TX3) (N := 5) hx hb hts hw1 hown hK hP 0 rfl rfl 4 (by decide) hw0 (fun _ h9 => h9) rfl dX3_read_52 ?_
                subst hQ
                exact m_iret C0 hS dX3_read_55 (u := (k, cur9_10, upd t1 k t9_6, upd g1 k g9_11, upd f1 k fi9_12, upd y1 k se9_13)) hP (Or.inl ⟨cur9_10, rfl, by omega, by rw [hpr, p_prog_e (by omega) (show p_step tx len cu = .inl cur9_10 from by simp only [p_step, hz1, hr1])]; rfl⟩)
            · skip
              have hstep : p_step tx len cu = .inr ((x, ya, yb, yd), cur9_10) := by simp only [p_step, hz1, hr1]
              have hok : p_ok (x, ya, yb, yd) := ⟨hx8, hya, hyb, hyd⟩
              refine lv_if_ne (tgt := 56) hx hb dX3_read_48 (by decide) (fun c48 => ?_) (fun c48 => ?_)
              · refine lv_aload_n hx hb dX3_read_56 rfl (lv_at hl 0 rfl) ?_
                refine lv_dup hx hb dX3_read_57 rfl ?_
                refine va_get (D := D) (ci := 3) (v := .int (nI k)) (C := RX3) (T := TX3) (N := 5) hx hb hts hw1 hown hK hP 0 rfl rfl 3 (by decide) hw2 (fun _ h9 => h9) rfl dX3_read_58 ?_
                refine lv_iconst (v := nI 1) hx hb dX3_read_61 (by decide) ?_
                refine lv_iadd hx hb dX3_read_62 ?_
                refine lv_topi (nm_r (nI_add _ _) ?_)
                refine va_put (D := D) (ci := 3) (v := .int (nI (k + 1))) (ty := .int) (C := RX3) (T := TX3) (N := 5) hx hb hts hw1 tyX3 tyX3_ok nmX3 hown hK hP hD hS 0 rfl rfl 3 (by decide) hw2 (fun _ h9 => h9) rfl (by decide +kernel) rfl rfl (Nat.le_of_ble_eq_true rfl) dX3_read_63 (fun H16 locs hP hD hS => ?_)
                have hP : va_P D vwCl ([(pr, .inr (3, [.ref tp, .ref sp, .int (nI len), .int (nI (k + 1)), .int (nI cur9_10)])), (tp, .inl (cY 1, 60, .inl (m_nf tx))), (sp, .inl (cY 4, 15, .inr (.inr (.inr (.inr (m_sa sa))))))] ++ m_pool sa (upd t1 k t9_6) (upd g1 k g9_11) (upd f1 k fi9_12) (upd y1 k se9_13)) H16 := hP
                have hD : va_D A ([(pr, .inr (3, [.ref tp, .ref sp, .int (nI len), .int (nI (k + 1)), .int (nI cur9_10)])), (tp, .inl (cY 1, 60, .inl (m_nf tx))), (sp, .inl (cY 4, 15, .inr (.inr (.inr (.inr (m_sa sa))))))] ++ m_pool sa (upd t1 k t9_6) (upd g1 k g9_11) (upd f1 k fi9_12) (upd y1 k se9_13)) := hD
                refine lv_aload_n hx hb dX3_read_66 rfl (lv_at hl 0 rfl) ?_
                refine va_get (D := D) (ci := 3) (v := .int (nI cur9_10)) (C := RX3) (T := TX3) (N := 5) hx hb hts hw1 hown hK hP 0 rfl rfl 4 (by decide) hw0 (fun _ h9 => h9) rfl dX3_read_67 ?_
                refine lv_aload_n hx hb dX3_read_70 rfl (lv_at hl 0 rfl) ?_
                refine va_get (D := D) (ci := 3) (v := .int (nI len)) (C := RX3) (T := TX3) (N := 5) hx hb hts hw1 hown hK hP 0 rfl rfl 2 (by decide) hw4 (fun _ h9 => h9) rfl dX3_read_71 ?_
                refine lv_icmp_ne (tgt := 79) hx hb dX3_read_74 (by decide) (fun c74 => ?_) (fun c74 => ?_)
                · have c74 : ¬ (cur9_10 = len) := fun q => c74 ((nI_eq (a := cur9_10) (b := len) (by first | omega | exact Nat.lt_of_le_of_lt Nat.and_le_right (by decide) | exact Nat.lt_trans (nm_lt _ _) (by decide) | exact Nat.lt_trans (np_lt _ _) (by decide) | exact Nat.lt_trans (p_at_lt htx) (by decide)) (by first | omega | exact Nat.lt_of_le_of_lt Nat.and_le_right (by decide) | exact Nat.lt_trans (nm_lt _ _) (by decide) | exact Nat.lt_trans (np_lt _ _) (by decide) | exact Nat.lt_trans (p_at_lt htx) (by decide))).mpr q)
                  refine lv_aload_n hx hb dX3_read_79 rfl (lv_at hl 0 rfl) ?_
                  refine lv_bipush (v := nI 59) hx hb dX3_read_80 (by decide) ?_
                  refine m_callVi (As := [.int (nI 59)]) (rest := []) C0 hl hP hD hS (c_X3_skip l D cY pr tp sp len (k + 1) cur9_10 tx 59 (by first | assumption | omega | exact nm_lt _ _ | exact np_lt _ _ | decide) (by first | assumption | omega | exact nm_lt _ _ | exact np_lt _ _ | decide) (by first | assumption | omega | exact nm_lt _ _ | exact np_lt _ _ | decide) (by first | assumption | omega | exact nm_lt _ _ | exact np_lt _ _ | decide) (by first | assumption | omega | exact nm_lt _ _ | exact np_lt _ _ | decide)) (cwV 1 hts gX3_read_X3_skip rfl rfl rfl (by decide +kernel) ⟨Nat.le_of_ble_eq_true rfl, Nat.le_of_ble_eq_true rfl⟩) dX3_read_82 [0, 1] rfl rfl 0 rfl rfl rfl rfl (Nat.le_of_ble_eq_true rfl) (Nat.zero_le _) (Nat.zero_le _) (fun _ => rfl) (fun r19 u H17 locs hw hP hD hS => ?_)
                  obtain ⟨cur9_18, rfl⟩ : ∃ z, z = u := ⟨_, rfl⟩
                  try dsimp only at hw
                  have hq20 := hw; clear hw
                  have hP : va_P D vwCl ([(pr, .inr (3, [.ref tp, .ref sp, .int (nI len), .int (nI (k + 1)), .int (nI cur9_18)])), (tp, .inl (cY 1, 60, .inl (m_nf tx))), (sp, .inl (cY 4, 15, .inr (.inr (.inr (.inr (m_sa sa))))))] ++ m_pool sa (upd t1 k t9_6) (upd g1 k g9_11) (upd f1 k fi9_12) (upd y1 k se9_13)) H17 := hP
                  have hD : va_D A ([(pr, .inr (3, [.ref tp, .ref sp, .int (nI len), .int (nI (k + 1)), .int (nI cur9_18)])), (tp, .inl (cY 1, 60, .inl (m_nf tx))), (sp, .inl (cY 4, 15, .inr (.inr (.inr (.inr (m_sa sa))))))] ++ m_pool sa (upd t1 k t9_6) (upd g1 k g9_11) (upd f1 k fi9_12) (upd y1 k se9_13)) := hD
                  rcases hq20 with ⟨rfl, hk1, hk3, hk4⟩ | ⟨rfl, hk1, hk3⟩
                  · skip
                    rw [hk3] at hP hD
                    have hP : va_P D vwCl ([(pr, .inr (3, [.ref tp, .ref sp, .int (nI len), .int (nI (k + 1)), .int (nI (cur9_10 + 1))])), (tp, .inl (cY 1, 60, .inl (m_nf tx))), (sp, .inl (cY 4, 15, .inr (.inr (.inr (.inr (m_sa sa))))))] ++ m_pool sa (upd t1 k t9_6) (upd g1 k g9_11) (upd f1 k fi9_12) (upd y1 k se9_13)) H17 := hP
                    have hD : va_D A ([(pr, .inr (3, [.ref tp, .ref sp, .int (nI len), .int (nI (k + 1)), .int (nI (cur9_10 + 1))])), (tp, .inl (cY 1, 60, .inl (m_nf tx))), (sp, .inl (cY 4, 15, .inr (.inr (.inr (.inr (m_sa sa))))))] ++ m_pool sa (upd t1 k t9_6) (upd g1 k g9_11) (upd f1 k fi9_12) (upd y1 k se9_13)) := hD
                    refine lv_if_ne (tgt := 10) hx hb dX3_read_85 (by decide) (fun c85 => ?_) (fun c85 => ?_)
                    · exact ih10 (k + 1) (cur9_10 + 1) (upd t1 k t9_6) (upd g1 k g9_11) (upd f1 k fi9_12) (upd y1 k se9_13) (done ++ [(x, ya, yb, yd)]) _ _ ls (by first | assumption | omega) (by first | assumption | omega) (by simp [hdl]) (p_held_put hheld hdl hok ht9 hg9 hf9 he9) (by rw [hpr, p_prog_on (by omega) hstep c74 hk1, show 15 - k - 1 = 15 - (k + 1) by omega]) (by omega) hP hD hS (lv_sub hl [0] rfl)
                    · exact absurd c85 (by decide)
                  · skip
                    rw [hk3] at hP hD
                    have hP : va_P D vwCl ([(pr, .inr (3, [.ref tp, .ref sp, .int (nI len), .int (nI (k + 1)), .int (nI cur9_10)])), (tp, .inl (cY 1, 60, .inl (m_nf tx))), (sp, .inl (cY 4, 15, .inr (.inr (.inr (.inr (m_sa sa))))))] ++ m_pool sa (upd t1 k t9_6) (upd g1 k g9_11) (upd f1 k fi9_12) (upd y1 k se9_13)) H17 := hP
                    have hD : va_D A ([(pr, .inr (3, [.ref tp, .ref sp, .int (nI len), .int (nI (k + 1)), .int (nI cur9_10)])), (tp, .inl (cY 1, 60, .inl (m_nf tx))), (sp, .inl (cY 4, 15, .inr (.inr (.inr (.inr (m_sa sa))))))] ++ m_pool sa (upd t1 k t9_6) (upd g1 k g9_11) (upd f1 k fi9_12) (upd y1 k se9_13)) := hD
                    refine lv_if_ne (tgt := 10) hx hb dX3_read_85 (by decide) (fun c85 => ?_) (fun c85 => ?_)
                    · exact absurd c85 (by decide)
                    · refine lv_aload_n hx hb dX3_read_88 rfl (lv_at hl 0 rfl) ?_
                      refine va_get (D := D) (ci := 3) (v := .int (nI cur9_10)) (C := RX3) (T := TX3) (N := 5) hx hb hts hw1 hown hK hP 0 rfl rfl 4 (by decide) hw0 (fun _ h9 => h9) rfl dX3_read_89 ?_
                      subst hQ
                      exact m_iret C0 hS dX3_read_92 (u := ((k + 1), cur9_10, upd t1 k t9_6, upd g1 k g9_11, upd f1 k fi9_12, upd y1 k se9_13)) hP (Or.inl ⟨_, rfl, by omega, by rw [hpr, p_prog_bad (by omega) hstep c74 hk1]; rfl⟩)
                · have c74 : cur9_10 = len := (nI_eq (a := cur9_10) (b := len) (by first | omega | exact Nat.lt_of_le_of_lt Nat.and_le_right (by decide) | exact Nat.lt_trans (nm_lt _ _) (by decide) | exact Nat.lt_trans (np_lt _ _) (by decide) | exact Nat.lt_trans (p_at_lt htx) (by decide)) (by first | omega | exact Nat.lt_of_le_of_lt Nat.and_le_right (by decide) | exact Nat.lt_trans (nm_lt _ _) (by decide) | exact Nat.lt_trans (np_lt _ _) (by decide) | exact Nat.lt_trans (p_at_lt htx) (by decide))).mp c74
                  refine lv_iconst (v := (-1)) hx hb dX3_read_77 (by decide) ?_
                  rw [c74] at hstep
                  subst hQ
                  exact m_iret C0 hS dX3_read_78 (u := (k + 1, cur9_10, upd t1 k t9_6, upd g1 k g9_11, upd f1 k fi9_12, upd y1 k se9_13)) hP (Or.inr ⟨done ++ [(x, ya, yb, yd)], rfl, by rw [hpr, p_prog_end (by omega) hstep]; rfl, by simp [hdl], by simp; omega, by simp, p_held_put hheld hdl hok ht9 hg9 hf9 he9⟩)
              · exact absurd c48 (by decide)
  exact lp10_3 _ 0 0 pt pg pf pe ([]) _ _ ls (by first | assumption | omega) (by first | assumption | omega) (rfl) (fun j z h => by simp at h) ((p_cont_nil _).symm) (Nat.lt_succ_self _) hP hD hS (lv_sub hl [0] rfl)
set_option maxHeartbeats 4000000 in
set_option maxRecDepth 100000 in
theorem c_X3_runOn (l : Launch) (D : va_G) (cY : Nat → ClassId) (pr tp sp len sc cur : Nat) (tx : Nat → Nat) (ad ab cnt na nb : Nat) (f bp : Nat → Nat) (sa : Nat → Nat) (pt pg pf pe : Nat → Int32) (ps : List p_St) (hsc : sc = ps.length) (hps : ps.length ≤ 15) (hheld : p_held ps pt pg pf pe) (hf8 : m_z 8 f) (hf16 : ∀ j, f j < 65536) (hB : n_bp bp) : m_Mi l yX3_runOn wsX3_runOn 4 96 D cY [.ref pr, .ref ad, .ref na] ([(pr, .inr (3, [.ref tp, .ref sp, .int (nI len), .int (nI sc), .int (nI cur)])), (tp, .inl (cY 1, 60, .inl (m_nf tx))), (sp, .inl (cY 4, 15, .inr (.inr (.inr (.inr (m_sa sa)))))), (ad, .inr (4, [.ref ab, .int (nI cnt)])), (ab, .inl (cY 0, 8, .inl (m_nf f))), (na, .inr (2, [.ref nb])), (nb, .inl (cY 0, 256, .inl (m_nf bp)))] ++ m_pool sa pt pg pf pe) (fun (res : Int32) (u : (Nat → Nat) × Nat) => ((res, u.1, u.2) = p_run ps 0 f cnt) ∧ (m_z 8 u.1) ∧ (∀ j, u.1 j < 65536)) (fun (u : (Nat → Nat) × Nat) => ([(pr, .inr (3, [.ref tp, .ref sp, .int (nI len), .int (nI sc), .int (nI cur)])), (tp, .inl (cY 1, 60, .inl (m_nf tx))), (sp, .inl (cY 4, 15, .inr (.inr (.inr (.inr (m_sa sa)))))), (ad, .inr (4, [.ref ab, .int (nI u.2)])), (ab, .inl (cY 0, 8, .inl (m_nf u.1))), (na, .inr (2, [.ref nb])), (nb, .inl (cY 0, 256, .inl (m_nf bp)))] ++ m_pool sa pt pg pf pe)) := by
  refine m_enterI (cc := cX3_runOn) (maxL := 4) (ret := (some .int)) (by decide +kernel) rfl (Nat.le_of_ble_eq_true rfl) ?_
  intro p e s m below meth c A ls C0 hP hD hl
  obtain ⟨hx, hb, hr, hml, hts, hown, hlocks, hK, hA⟩ := id C0
  generalize hQ : MQ below _ _ s 0 0 A = Q
  have hS : va_S A s.heap s.heap [] := va_S.rf
  have hl : lv_has ls 4 [(0, .ref pr), (1, .ref ad), (2, .ref na)] := hl
  have hw0 := hts (.fieldLink RX3 29 "NimberField$Program" "stepCount" "I") (by decide +kernel)
  have hw1 := (show ∀ w ∈ u_ws RX3 TX3 5, w ∈ wsX3_runOn from by decide +kernel)
  have hw2 := hts (.fieldLink RX3 17 "NimberField$Program" "steps" "[LNimberField$Step;") (by decide +kernel)
  refine lv_iconst (v := nI 0) hx hb dX3_runOn_0 (by decide) ?_
  refine lv_istore_n (lv' := [(3, .int (nI 0)), (0, .ref pr), (1, .ref ad), (2, .ref na)]) hx hb dX3_runOn_1 rfl hl (by decide) rfl (fun ls hl => ?_)
  have lp2_1 : ∀ (nn : Nat) (k : Nat) (f1 : Nat → Nat) (c1 : Nat) (H : Heap) (locs : List Loc) (ls : Array Slot), (k ≤ sc) → (p_run (ps.drop k) k f1 c1 = p_run ps 0 f cnt) → (m_z 8 f1) → (∀ j, f1 j < 65536) → sc - k < nn → va_P D vwCl ([(pr, .inr (3, [.ref tp, .ref sp, .int (nI len), .int (nI sc), .int (nI cur)])), (tp, .inl (cY 1, 60, .inl (m_nf tx))), (sp, .inl (cY 4, 15, .inr (.inr (.inr (.inr (m_sa sa)))))), (ad, .inr (4, [.ref ab, .int (nI c1)])), (ab, .inl (cY 0, 8, .inl (m_nf f1))), (na, .inr (2, [.ref nb])), (nb, .inl (cY 0, 256, .inl (m_nf bp)))] ++ m_pool sa pt pg pf pe) H → va_D A ([(pr, .inr (3, [.ref tp, .ref sp, .int (nI len), .int (nI sc), .int (nI cur)])), (tp, .inl (cY 1, 60, .inl (m_nf tx))), (sp, .inl (cY 4, 15, .inr (.inr (.inr (.inr (m_sa sa)))))), (ad, .inr (4, [.ref ab, .int (nI c1)])), (ab, .inl (cY 0, 8, .inl (m_nf f1))), (na, .inr (2, [.ref nb])), (nb, .inl (cY 0, 256, .inl (m_nf bp)))] ++ m_pool sa pt pg pf pe) → va_S A s.heap H locs → lv_has ls 4 [(0, .ref pr), (1, .ref ad), (2, .ref na), (3, .int (nI k))] → W p l e { frames := 4, cells := 0, slots := 0, locals := 96 } s m ([.ref pr, .ref ad, .ref na] : List Value).toArray below meth c H locs 0 0 Q (F0 m 2 ls []) := by
    intro nn
    induction nn with
    | zero => intros; omega
    | succ nn ih2 =>
      intro k f1 c1 H locs ls hk hrun hf1 hf2 hmz hP hD hS hl
      refine lv_iload_n hx hb dX3_runOn_2 rfl (lv_at hl 3 rfl) ?_
      refine lv_aload_n hx hb dX3_runOn_3 rfl (lv_at hl 0 rfl) ?_
      refine va_get (D := D) (ci := 3) (v := .int (nI sc)) (C := RX3) (T := TX3) (N := 5) hx hb hts hw1 hown hK hP 0 rfl rfl 3 (by decide) hw0 (fun _ h9 => h9) rfl dX3_runOn_4 ?_
      refine lv_icmp_ge (tgt := 38) hx hb dX3_runOn_7 (by decide) (fun c7 => ?_) (fun c7 => ?_)
      · have c7 : sc ≤ k := (nI_leI (a := sc) (b := k) (by first | omega | exact Nat.lt_of_le_of_lt Nat.and_le_right (by decide) | exact Nat.lt_trans (nm_lt _ _) (by decide) | exact Nat.lt_trans (np_lt _ _) (by decide) | exact Nat.lt_trans (p_at_lt htx) (by decide)) (by first | omega | exact Nat.lt_of_le_of_lt Nat.and_le_right (by decide) | exact Nat.lt_trans (nm_lt _ _) (by decide) | exact Nat.lt_trans (np_lt _ _) (by decide) | exact Nat.lt_trans (p_at_lt htx) (by decide))).mp c7
        refine lv_iconst (v := (-1)) hx hb dX3_runOn_38 (by decide) ?_
        subst hQ
        exact m_iret C0 hS dX3_runOn_39 (u := (f1, c1)) hP (⟨by rw [← hrun, p_run_end (by omega)], hf1, hf2⟩)
      · have c7 : ¬ (sc ≤ k) := fun q => c7 ((nI_leI (a := sc) (b := k) (by first | omega | exact Nat.lt_of_le_of_lt Nat.and_le_right (by decide) | exact Nat.lt_trans (nm_lt _ _) (by decide) | exact Nat.lt_trans (np_lt _ _) (by decide) | exact Nat.lt_trans (p_at_lt htx) (by decide)) (by first | omega | exact Nat.lt_of_le_of_lt Nat.and_le_right (by decide) | exact Nat.lt_trans (nm_lt _ _) (by decide) | exact Nat.lt_trans (np_lt _ _) (by decide) | exact Nat.lt_trans (p_at_lt htx) (by decide))).mpr q)
        refine lv_iload_n hx hb dX3_runOn_10 rfl (lv_at hl 3 rfl) ?_
        refine lv_bipush (v := nI 15) hx hb dX3_runOn_11 (by decide) ?_
        refine lv_icmp_ge (tgt := 38) hx hb dX3_runOn_13 (by decide) (fun c13 => ?_) (fun c13 => ?_)
        · have c13 : 15 ≤ k := (nI_leI (a := 15) (b := k) (by first | omega | exact Nat.lt_of_le_of_lt Nat.and_le_right (by decide) | exact Nat.lt_trans (nm_lt _ _) (by decide) | exact Nat.lt_trans (np_lt _ _) (by decide) | exact Nat.lt_trans (p_at_lt htx) (by decide)) (by first | omega | exact Nat.lt_of_le_of_lt Nat.and_le_right (by decide) | exact Nat.lt_trans (nm_lt _ _) (by decide) | exact Nat.lt_trans (np_lt _ _) (by decide) | exact Nat.lt_trans (p_at_lt htx) (by decide))).mp c13
          exfalso; omega
        · have c13 : ¬ (15 ≤ k) := fun q => c13 ((nI_leI (a := 15) (b := k) (by first | omega | exact Nat.lt_of_le_of_lt Nat.and_le_right (by decide) | exact Nat.lt_trans (nm_lt _ _) (by decide) | exact Nat.lt_trans (np_lt _ _) (by decide) | exact Nat.lt_trans (p_at_lt htx) (by decide)) (by first | omega | exact Nat.lt_of_le_of_lt Nat.and_le_right (by decide) | exact Nat.lt_trans (nm_lt _ _) (by decide) | exact Nat.lt_trans (np_lt _ _) (by decide) | exact Nat.lt_trans (p_at_lt htx) (by decide))).mpr q)
          refine lv_aload_n hx hb dX3_runOn_16 rfl (lv_at hl 0 rfl) ?_
          refine va_get (D := D) (ci := 3) (v := .ref sp) (C := RX3) (T := TX3) (N := 5) hx hb hts hw1 hown hK hP 0 rfl rfl 1 (by decide) hw2 (fun _ h9 => h9) rfl dX3_runOn_17 ?_
          refine lv_iload_n hx hb dX3_runOn_20 rfl (lv_at hl 3 rfl) ?_
          refine va_aldq hx hb hK hP 2 4 rfl rfl (m_in (n := k) (by first | assumption | omega) (by decide)) dX3_runOn_21 ?_
          refine m_top (show va_rf (m_sa sa (nI k).toNatClampNeg) = .ref (sa k) from by rw [nI_clamp (by omega)]; rfl) ?_
          refine lv_aload_n hx hb dX3_runOn_22 rfl (lv_at hl 1 rfl) ?_
          refine lv_aload_n hx hb dX3_runOn_23 rfl (lv_at hl 2 rfl) ?_
          obtain ⟨⟨rg, sg, fi, se⟩, hget⟩ : ∃ x, ps[k]? = some x := ⟨ps[k], List.getElem?_eq_getElem (by omega)⟩
          obtain ⟨hx1, hx2, hx3, hx4, hok⟩ := hheld k _ hget
          dsimp only at hx1 hx2 hx3 hx4
          refine m_callVi (As := [.ref ad, .ref na]) (rest := []) C0 hl hP hD hS (c_X5_doOn l D cY (sa k) na nb rg sg fi se ad ab c1 f1 bp (by first | assumption | omega | exact nm_lt _ _ | exact np_lt _ _ | decide) (by first | assumption | omega | exact nm_lt _ _ | exact np_lt _ _ | decide) (by first | assumption | omega | exact nm_lt _ _ | exact np_lt _ _ | decide) (by first | assumption | omega | exact nm_lt _ _ | exact np_lt _ _ | decide)) (cwV 2 hts gX3_runOn_X5_doOn rfl rfl rfl (by decide +kernel) ⟨Nat.le_of_ble_eq_true rfl, Nat.le_of_ble_eq_true rfl⟩) dX3_runOn_24 [3, 4, 5, 6, (7 + k)] (by simp only [List.map_cons, List.map_nil]; rw [m_pl_at (n := 7) rfl (by omega), hx1, hx2, hx3, hx4] <;> rfl) (by simp [va_nd] <;> omega) (7 + k) (m_pl_at (n := 7) rfl (by omega)) rfl rfl rfl (Nat.le_of_ble_eq_true rfl) (Nat.zero_le _) (Nat.zero_le _) (fun _ => rfl) (fun r5 u H2 locs hw hP hD hS => ?_)
          obtain ⟨f9_3, cnt9_4⟩ := u
          try dsimp only at hw
          have hq6 := hw; clear hw
          have hP : va_P D vwCl (List.set ([(pr, .inr (3, [.ref tp, .ref sp, .int (nI len), .int (nI sc), .int (nI cur)])), (tp, .inl (cY 1, 60, .inl (m_nf tx))), (sp, .inl (cY 4, 15, .inr (.inr (.inr (.inr (m_sa sa)))))), (ad, .inr (4, [.ref ab, .int (nI cnt9_4)])), (ab, .inl (cY 0, 8, .inl (m_nf f9_3))), (na, .inr (2, [.ref nb])), (nb, .inl (cY 0, 256, .inl (m_nf bp)))] ++ m_pool sa pt pg pf pe) (7 + k) ((sa k), .inr (5, [.int (nI rg), .int (nI sg), .int (nI fi), .int (nI se)]))) H2 := hP
          have hD : va_D A (List.set ([(pr, .inr (3, [.ref tp, .ref sp, .int (nI len), .int (nI sc), .int (nI cur)])), (tp, .inl (cY 1, 60, .inl (m_nf tx))), (sp, .inl (cY 4, 15, .inr (.inr (.inr (.inr (m_sa sa)))))), (ad, .inr (4, [.ref ab, .int (nI cnt9_4)])), (ab, .inl (cY 0, 8, .inl (m_nf f9_3))), (na, .inr (2, [.ref nb])), (nb, .inl (cY 0, 256, .inl (m_nf bp)))] ++ m_pool sa pt pg pf pe) (7 + k) ((sa k), .inr (5, [.int (nI rg), .int (nI sg), .int (nI fi), .int (nI se)]))) := hD
          rw [m_pl_set (n := 7) rfl] at hP hD
          rw [← hx1, m_upself pt k] at hP hD
          rw [← hx2, m_upself pg k] at hP hD
          rw [← hx3, m_upself pf k] at hP hD
          rw [← hx4, m_upself pe k] at hP hD
          have hP : va_P D vwCl ([(pr, .inr (3, [.ref tp, .ref sp, .int (nI len), .int (nI sc), .int (nI cur)])), (tp, .inl (cY 1, 60, .inl (m_nf tx))), (sp, .inl (cY 4, 15, .inr (.inr (.inr (.inr (m_sa sa)))))), (ad, .inr (4, [.ref ab, .int (nI cnt9_4)])), (ab, .inl (cY 0, 8, .inl (m_nf f9_3))), (na, .inr (2, [.ref nb])), (nb, .inl (cY 0, 256, .inl (m_nf bp)))] ++ m_pool sa pt pg pf pe) H2 := hP
          have hD : va_D A ([(pr, .inr (3, [.ref tp, .ref sp, .int (nI len), .int (nI sc), .int (nI cur)])), (tp, .inl (cY 1, 60, .inl (m_nf tx))), (sp, .inl (cY 4, 15, .inr (.inr (.inr (.inr (m_sa sa)))))), (ad, .inr (4, [.ref ab, .int (nI cnt9_4)])), (ab, .inl (cY 0, 8, .inl (m_nf f9_3))), (na, .inr (2, [.ref nb])), (nb, .inl (cY 0, 256, .inl (m_nf bp)))] ++ m_pool sa pt pg pf pe) := hD
          rcases hq6 with ⟨rfl, hd1, hd2, hd3⟩ | ⟨rfl, hd1, hd2, hd3⟩
          · skip
            refine lv_if_ne (tgt := 32) hx hb dX3_runOn_27 (by decide) (fun c27 => ?_) (fun c27 => ?_)
            · exact absurd c27 (by decide)
            · refine lv_iload_n hx hb dX3_runOn_30 rfl (lv_at hl 3 rfl) ?_
              subst hQ
              exact m_iret C0 hS dX3_runOn_31 (u := (f9_3, cnt9_4)) hP (⟨by rw [← hrun, p_run_trap hget hd1, hd2, hd3], by rw [hd2]; exact hf1, by rw [hd2]; exact hf2⟩)
          · skip
            refine lv_if_ne (tgt := 32) hx hb dX3_runOn_27 (by decide) (fun c27 => ?_) (fun c27 => ?_)
            · refine lv_iinc (v := nI (k + 1)) (lv' := [(3, .int (nI (k + 1))), (0, .ref pr), (1, .ref ad), (2, .ref na)]) hx hb dX3_runOn_32 hl (k := 3) rfl (nI_add _ 1) (by decide) rfl (fun ls hl => ?_)
              refine lv_goto (tgt := 2) hx hb dX3_runOn_35 (by decide) ?_
              exact ih2 (k + 1) f9_3 cnt9_4 _ _ ls (by first | assumption | omega) ((p_run_on hget hd1).trans hrun) (hd2) (hd3) (by omega) hP hD hS (lv_sub hl [1, 2, 3, 0] rfl)
            · exact absurd c27 (by decide)
  exact lp2_1 _ 0 f cnt _ _ ls (by first | assumption | omega) (rfl) (by first | assumption | omega) (by first | assumption | omega) (Nat.lt_succ_self _) hP hD hS (lv_sub hl [1, 2, 3, 0] rfl)
set_option maxHeartbeats 4000000 in
set_option maxRecDepth 100000 in
theorem c_X3_lastTarget (l : Launch) (D : va_G) (cY : Nat → ClassId) (pr tp sp len sc cur : Nat) (tx : Nat → Nat) (sa : Nat → Nat) (pt pg pf pe : Nat → Int32) (hs1 : 1 ≤ sc) (hs2 : sc ≤ 15) : m_Mi l yX3_lastTarget wsX3_lastTarget 1 20 D cY [.ref pr] ([(pr, .inr (3, [.ref tp, .ref sp, .int (nI len), .int (nI sc), .int (nI cur)])), (tp, .inl (cY 1, 60, .inl (m_nf tx))), (sp, .inl (cY 4, 15, .inr (.inr (.inr (.inr (m_sa sa))))))] ++ m_pool sa pt pg pf pe) (fun (res : Int32) (u : Unit) => res = pt (sc - 1)) (fun (u : Unit) => ([(pr, .inr (3, [.ref tp, .ref sp, .int (nI len), .int (nI sc), .int (nI cur)])), (tp, .inl (cY 1, 60, .inl (m_nf tx))), (sp, .inl (cY 4, 15, .inr (.inr (.inr (.inr (m_sa sa))))))] ++ m_pool sa pt pg pf pe)) := by
  refine m_enterI (cc := cX3_lastTarget) (maxL := 1) (ret := (some .int)) (by decide +kernel) rfl (Nat.le_of_ble_eq_true rfl) ?_
  intro p e s m below meth c A ls C0 hP hD hl
  obtain ⟨hx, hb, hr, hml, hts, hown, hlocks, hK, hA⟩ := id C0
  generalize hQ : MQ below _ _ s 0 0 A = Q
  have hS : va_S A s.heap s.heap [] := va_S.rf
  have hl : lv_has ls 1 [(0, .ref pr)] := hl
  have hw0 := hts (.fieldLink RX3 29 "NimberField$Program" "stepCount" "I") (by decide +kernel)
  have hw1 := (show ∀ w ∈ u_ws RX3 TX3 5, w ∈ wsX3_lastTarget from by decide +kernel)
  have hw2 := hts (.fieldLink RX3 17 "NimberField$Program" "steps" "[LNimberField$Step;") (by decide +kernel)
  refine lv_aload_n hx hb dX3_lastTarget_0 rfl (lv_at hl 0 rfl) ?_
  refine va_get (D := D) (ci := 3) (v := .int (nI sc)) (C := RX3) (T := TX3) (N := 5) hx hb hts hw1 hown hK hP 0 rfl rfl 3 (by decide) hw0 (fun _ h9 => h9) rfl dX3_lastTarget_1 ?_
  refine lv_iconst (v := nI 1) hx hb dX3_lastTarget_4 (by decide) ?_
  refine lv_icmp_lt (tgt := 17) hx hb dX3_lastTarget_5 (by decide) (fun c5 => ?_) (fun c5 => ?_)
  · have c5 : sc < 1 := (nI_ltI (a := sc) (b := 1) (by first | omega | exact Nat.lt_of_le_of_lt Nat.and_le_right (by decide) | exact Nat.lt_trans (nm_lt _ _) (by decide) | exact Nat.lt_trans (np_lt _ _) (by decide) | exact Nat.lt_trans (p_at_lt htx) (by decide)) (by first | omega | exact Nat.lt_of_le_of_lt Nat.and_le_right (by decide) | exact Nat.lt_trans (nm_lt _ _) (by decide) | exact Nat.lt_trans (np_lt _ _) (by decide) | exact Nat.lt_trans (p_at_lt htx) (by decide))).mp c5
    exfalso; omega
  · have c5 : ¬ (sc < 1) := fun q => c5 ((nI_ltI (a := sc) (b := 1) (by first | omega | exact Nat.lt_of_le_of_lt Nat.and_le_right (by decide) | exact Nat.lt_trans (nm_lt _ _) (by decide) | exact Nat.lt_trans (np_lt _ _) (by decide) | exact Nat.lt_trans (p_at_lt htx) (by decide)) (by first | omega | exact Nat.lt_of_le_of_lt Nat.and_le_right (by decide) | exact Nat.lt_trans (nm_lt _ _) (by decide) | exact Nat.lt_trans (np_lt _ _) (by decide) | exact Nat.lt_trans (p_at_lt htx) (by decide))).mpr q)
    refine lv_aload_n hx hb dX3_lastTarget_8 rfl (lv_at hl 0 rfl) ?_
    refine va_get (D := D) (ci := 3) (v := .int (nI sc)) (C := RX3) (T := TX3) (N := 5) hx hb hts hw1 hown hK hP 0 rfl rfl 3 (by decide) hw0 (fun _ h9 => h9) rfl dX3_lastTarget_9 ?_
    refine lv_bipush (v := nI 15) hx hb dX3_lastTarget_12 (by decide) ?_
    refine lv_icmp_le (tgt := 21) hx hb dX3_lastTarget_14 (by decide) (fun c14 => ?_) (fun c14 => ?_)
    · have c14 : sc ≤ 15 := (nI_leI (a := sc) (b := 15) (by first | omega | exact Nat.lt_of_le_of_lt Nat.and_le_right (by decide) | exact Nat.lt_trans (nm_lt _ _) (by decide) | exact Nat.lt_trans (np_lt _ _) (by decide) | exact Nat.lt_trans (p_at_lt htx) (by decide)) (by first | omega | exact Nat.lt_of_le_of_lt Nat.and_le_right (by decide) | exact Nat.lt_trans (nm_lt _ _) (by decide) | exact Nat.lt_trans (np_lt _ _) (by decide) | exact Nat.lt_trans (p_at_lt htx) (by decide))).mp c14
      refine lv_aload_n hx hb dX3_lastTarget_21 rfl (lv_at hl 0 rfl) ?_
      refine va_get (D := D) (ci := 3) (v := .ref sp) (C := RX3) (T := TX3) (N := 5) hx hb hts hw1 hown hK hP 0 rfl rfl 1 (by decide) hw2 (fun _ h9 => h9) rfl dX3_lastTarget_22 ?_
      refine lv_aload_n hx hb dX3_lastTarget_25 rfl (lv_at hl 0 rfl) ?_
      refine va_get (D := D) (ci := 3) (v := .int (nI sc)) (C := RX3) (T := TX3) (N := 5) hx hb hts hw1 hown hK hP 0 rfl rfl 3 (by decide) hw0 (fun _ h9 => h9) rfl dX3_lastTarget_26 ?_
      refine lv_iconst (v := nI 1) hx hb dX3_lastTarget_29 (by decide) ?_
      refine lv_isub hx hb dX3_lastTarget_30 ?_
      refine lv_topi (nm_r (pk_sub (by omega)) ?_)
      refine va_aldq hx hb hK hP 2 4 rfl rfl (m_in (n := sc - 1) (by first | assumption | omega) (by decide)) dX3_lastTarget_31 ?_
      refine m_top (show va_rf (m_sa sa (nI (sc - 1)).toNatClampNeg) = .ref (sa (sc - 1)) from by rw [nI_clamp (by omega)]; rfl) ?_
      refine m_callVi (As := []) (rest := []) C0 hl hP hD hS (c_X5_target l D cY (sa (sc - 1)) (pt (sc - 1)) (pg (sc - 1)) (pf (sc - 1)) (pe (sc - 1)) ) (cwV 0 hts gX3_lastTarget_X5_target rfl rfl rfl (by decide +kernel) ⟨Nat.le_of_ble_eq_true rfl, Nat.le_of_ble_eq_true rfl⟩) dX3_lastTarget_32 [(3 + (sc - 1))] (by simp only [List.map_cons, List.map_nil]; rw [m_pl_at (n := 3) rfl (by omega)] <;> rfl) (by simp [va_nd] <;> omega) (3 + (sc - 1)) (m_pl_at (n := 3) rfl (by omega)) rfl rfl rfl (Nat.le_of_ble_eq_true rfl) (Nat.zero_le _) (Nat.zero_le _) (fun _ => rfl) (fun r2 u H1 locs hw hP hD hS => ?_)
      try dsimp only at hw
      obtain rfl := hw
      have hP : va_P D vwCl (List.set ([(pr, .inr (3, [.ref tp, .ref sp, .int (nI len), .int (nI sc), .int (nI cur)])), (tp, .inl (cY 1, 60, .inl (m_nf tx))), (sp, .inl (cY 4, 15, .inr (.inr (.inr (.inr (m_sa sa))))))] ++ m_pool sa pt pg pf pe) (3 + (sc - 1)) ((sa (sc - 1)), .inr (5, [.int (pt (sc - 1)), .int (pg (sc - 1)), .int (pf (sc - 1)), .int (pe (sc - 1))]))) H1 := hP
      have hD : va_D A (List.set ([(pr, .inr (3, [.ref tp, .ref sp, .int (nI len), .int (nI sc), .int (nI cur)])), (tp, .inl (cY 1, 60, .inl (m_nf tx))), (sp, .inl (cY 4, 15, .inr (.inr (.inr (.inr (m_sa sa))))))] ++ m_pool sa pt pg pf pe) (3 + (sc - 1)) ((sa (sc - 1)), .inr (5, [.int (pt (sc - 1)), .int (pg (sc - 1)), .int (pf (sc - 1)), .int (pe (sc - 1))]))) := hD
      rw [m_pl_set (n := 3) rfl] at hP hD
      rw [m_upself pt (sc - 1)] at hP hD
      rw [m_upself pg (sc - 1)] at hP hD
      rw [m_upself pf (sc - 1)] at hP hD
      rw [m_upself pe (sc - 1)] at hP hD
      have hP : va_P D vwCl ([(pr, .inr (3, [.ref tp, .ref sp, .int (nI len), .int (nI sc), .int (nI cur)])), (tp, .inl (cY 1, 60, .inl (m_nf tx))), (sp, .inl (cY 4, 15, .inr (.inr (.inr (.inr (m_sa sa))))))] ++ m_pool sa pt pg pf pe) H1 := hP
      have hD : va_D A ([(pr, .inr (3, [.ref tp, .ref sp, .int (nI len), .int (nI sc), .int (nI cur)])), (tp, .inl (cY 1, 60, .inl (m_nf tx))), (sp, .inl (cY 4, 15, .inr (.inr (.inr (.inr (m_sa sa))))))] ++ m_pool sa pt pg pf pe) := hD
      subst hQ
      exact m_iret C0 hS dX3_lastTarget_35 (u := ()) hP (by first | trivial | rfl | omega)
    · have c14 : ¬ (sc ≤ 15) := fun q => c14 ((nI_leI (a := sc) (b := 15) (by first | omega | exact Nat.lt_of_le_of_lt Nat.and_le_right (by decide) | exact Nat.lt_trans (nm_lt _ _) (by decide) | exact Nat.lt_trans (np_lt _ _) (by decide) | exact Nat.lt_trans (p_at_lt htx) (by decide)) (by first | omega | exact Nat.lt_of_le_of_lt Nat.and_le_right (by decide) | exact Nat.lt_trans (nm_lt _ _) (by decide) | exact Nat.lt_trans (np_lt _ _) (by decide) | exact Nat.lt_trans (p_at_lt htx) (by decide))).mpr q)
      exfalso; omega
