/-! The law's loop and tail. -/
def law_F (p : Program) (l : Launch) (e : Env) (s : State) (m : MethodId) (meth : Method) (cq : Code) (b L : Nat) (xs : Nat → Int32) (D : va_G) (cY : Nat → ClassId) (A : Nat → Prop) (eS : Nat → Nat) (eO : Nat) (aa sa bp ab sb bq : Nat → Nat) : Prop :=
  m_C p l e s m [.ref b] meth cq cL_law ret 5 RL wsL_law D cY A ∧ m_E eS eO A s s.heap ∧ va_X b L xs s s.heap ∧ b < s.heap.size ∧ ¬ A b ∧ L ≤ 260 ∧ n_bp bp ∧ n_bp bq ∧ l.stackTraces = false
set_option maxHeartbeats 8000000 in
set_option maxRecDepth 100000 in
theorem law_tail {p : Program} {l : Launch} {e : Env} {s : State} {m : MethodId} {below : List Frame} {meth : Method} {cq : Code} {b L : Nat} {xs : Nat → Int32} {D : va_G} {cY : Nat → ClassId} {A : Nat → Prop} {eS : Nat → Nat} {eO : Nat} {Q : State → Prop} {aa sa bp ab sb bq : Nat → Nat} (F : law_F p l e s m meth cq b L xs D cY A eS eO aa sa bp ab sb bq) (hQ : ∀ (H : Heap) (locs : List Loc) (ls : Array Slot) (cells slots : Nat), cells ≤ 400 → slots ≤ 4000 → va_S A s.heap H locs → W p l e room_1 s m #[.ref b] below meth cq H locs cells slots Q (F0 m 106 ls [.int (nI 1)])) (j : oJ) (c : oC) (k9 : oJ) (d : oC) (hj : o_J j) (hc : o_C c) (hk9 : o_J k9) (hd : o_C d) (hR : o_R c d) (i : Nat) (H : Heap) (locs : List Loc) (ls : Array Slot) (cells slots : Nat) (hc1 : cells ≤ 350) (hc2 : slots ≤ 3900) (hP : va_P D vwCl (o_w cY aa sa bp j c ++ o_w cY ab sb bq k9 d) H) (hD : va_D A (o_w cY aa sa bp j c ++ o_w cY ab sb bq k9 d)) (hS : va_S A s.heap H locs) (hl : lv_has ls 5 [(0, .ref b), (1, .ref (aa 0)), (2, .ref (ab 0)), (3, .int (nI 1)), (4, .int (nI i))]) :
    W p l e room_1 s m #[.ref b] below meth cq H locs cells slots Q (F0 m 82 ls []) := by
  obtain ⟨C0, hE, hX, hbl, hbA, hL, hB, hBp, hfl⟩ := id F
  obtain ⟨hx, hb, hr, hml, hts, hown, hlocks, hK, hA⟩ := id C0
  have hr1 : room_1.cells = 600172 := rfl
  have hr2 : room_1.slots = 7300668 := rfl
  refine lv_iload_n hx hb dL_law_82 rfl (lv_at hl 3 rfl) ?_
  refine lv_if_eq (tgt := 105) hx hb dL_law_83 (by decide) (fun c83 => ?_) (fun c83 => ?_)
  · exact absurd c83 (by decide)
  · refine lv_aload_n hx hb dL_law_86 rfl (lv_at hl 1 rfl) ?_
    refine f_SL (As := [.ref (aa 0)]) (rest := []) C0 hE hl hP hD hS (o_isWell l hfl D cY eS eO aa sa bp hB j c hj hc  ) (va_cwS 1 hts gL_law_L_isWell rfl rfl rfl (by decide +kernel) ⟨Nat.le_of_ble_eq_true rfl, Nat.le_of_ble_eq_true rfl⟩) dL_law_87 rfl (Nat.le_of_ble_eq_true rfl) (by omega) (by omega) (fun _ => rfl) (fun r2 u H1 locs hw hP hD hS => ?_)
    try dsimp only at hw
    obtain rfl := hw
    have hP : va_P D vwCl (o_w cY aa sa bp j c ++ o_w cY ab sb bq k9 d) H1 := hP
    have hD : va_D A (o_w cY aa sa bp j c ++ o_w cY ab sb bq k9 d) := hD
    refine lv_if_eq (tgt := 105) hx hb dL_law_90 (by decide) (fun c90 => ?_) (fun c90 => ?_)
    · exact absurd c90 (by decide)
    · refine lv_aload_n hx hb dL_law_93 rfl (lv_at hl 1 rfl) ?_
      refine lv_aload_n hx hb dL_law_94 rfl (lv_at hl 2 rfl) ?_
      refine f_SO (As := [.ref (aa 0), .ref (ab 0)]) (rest := []) C0 hE hl hP hD hS (o_areAlike l hfl D cY eS eO aa sa bp hB ab sb bq hBp j c hj hc k9 d hk9 hd  (by first | assumption | omega | exact nm_lt _ _ | exact np_lt _ _ | exact q_s_lt _ | decide)) (va_cwS 2 hts gL_law_L_areAlike rfl rfl rfl (by decide +kernel) ⟨Nat.le_of_ble_eq_true rfl, Nat.le_of_ble_eq_true rfl⟩) dL_law_95 rfl (Nat.le_of_ble_eq_true rfl) (by omega) (by omega) (fun _ => rfl) (fun r4 u H3 locs hw hP hD hS => ?_)
      try dsimp only at hw
      obtain rfl := hw
      have hP : va_P D vwCl (o_w cY aa sa bp j c ++ o_w cY ab sb bq k9 d) H3 := hP
      have hD : va_D A (o_w cY aa sa bp j c ++ o_w cY ab sb bq k9 d) := hD
      refine lv_if_eq (tgt := 105) hx hb dL_law_98 (by decide) (fun c98 => ?_) (fun c98 => ?_)
      · exact absurd c98 (by decide)
      · refine lv_iconst (v := nI 1) hx hb dL_law_101 (by decide) ?_
        refine lv_goto (tgt := 106) hx hb dL_law_102 (by decide) ?_
        exact hQ _ _ ls _ _ (by omega) (by omega) hS
set_option maxHeartbeats 8000000 in
set_option maxRecDepth 100000 in
theorem law_loop {p : Program} {l : Launch} {e : Env} {s : State} {m : MethodId} {below : List Frame} {meth : Method} {cq : Code} {b L : Nat} {xs : Nat → Int32} {D : va_G} {cY : Nat → ClassId} {A : Nat → Prop} {eS : Nat → Nat} {eO : Nat} {Q : State → Prop} {aa sa bp ab sb bq : Nat → Nat} (F : law_F p l e s m meth cq b L xs D cY A eS eO aa sa bp ab sb bq) (hQ : ∀ (H : Heap) (locs : List Loc) (ls : Array Slot) (cells slots : Nat), cells ≤ 400 → slots ≤ 4000 → va_S A s.heap H locs → W p l e room_1 s m #[.ref b] below meth cq H locs cells slots Q (F0 m 106 ls [.int (nI 1)])) :
    ∀ (nn : Nat) (j : oJ) (c : oC) (k9 : oJ) (d : oC) (i : Nat) (H : Heap) (locs : List Loc) (ls : Array Slot) (cells slots : Nat), i ≤ 60 → 60 - i < nn → cells ≤ 200 + 2 * i → slots ≤ 3000 + 12 * i → o_J j → o_C c → o_J k9 → o_C d → o_R c d → va_P D vwCl (o_w cY aa sa bp j c ++ o_w cY ab sb bq k9 d) H → va_D A (o_w cY aa sa bp j c ++ o_w cY ab sb bq k9 d) → va_S A s.heap H locs → lv_has ls 5 [(0, .ref b), (1, .ref (aa 0)), (2, .ref (ab 0)), (3, .int (nI 1)), (4, .int (nI i))] →
      W p l e room_1 s m #[.ref b] below meth cq H locs cells slots Q (F0 m 21 ls []) := by
  obtain ⟨C0, hE, hX, hbl, hbA, hL, hB, hBp, hfl⟩ := id F
  obtain ⟨hx, hb, hr, hml, hts, hown, hlocks, hK, hA⟩ := id C0
  have hr1 : room_1.cells = 600172 := rfl
  have hr2 : room_1.slots = 7300668 := rfl
  intro nn
  induction nn with
  | zero => intros; omega
  | succ nn ih =>
      intro j c k9 d i H locs ls cells slots hi hn hc1 hc2 hj hc hk9 hd hR hP hD hS hl
      refine lv_iload hx hb dL_law_21 (lv_at hl 4 rfl) ?_
      refine lv_bipush (v := nI 60) hx hb dL_law_23 (by decide) ?_
      refine lv_icmp_ge (tgt := 82) hx hb dL_law_25 (by decide) (fun c25 => ?_) (fun c25 => ?_)
      · have c25 : 60 ≤ i := (nI_leI (a := 60) (b := i) (by first | omega | exact Nat.lt_of_le_of_lt Nat.and_le_right (by decide) | exact Nat.lt_trans (nm_lt _ _) (by decide) | exact Nat.lt_trans (np_lt _ _) (by decide) | exact Nat.lt_trans (p_at_lt htx) (by decide)) (by first | omega | exact Nat.lt_of_le_of_lt Nat.and_le_right (by decide) | exact Nat.lt_trans (nm_lt _ _) (by decide) | exact Nat.lt_trans (np_lt _ _) (by decide) | exact Nat.lt_trans (p_at_lt htx) (by decide))).mp c25
        exact law_tail F hQ j c k9 d hj hc hk9 hd hR i H locs ls cells slots (by omega) (by omega) hP hD hS (lv_sub hl [0, 1, 2, 3, 4] rfl)
      · have c25 : ¬ (60 ≤ i) := fun qq9 => c25 ((nI_leI (a := 60) (b := i) (by first | omega | exact Nat.lt_of_le_of_lt Nat.and_le_right (by decide) | exact Nat.lt_trans (nm_lt _ _) (by decide) | exact Nat.lt_trans (np_lt _ _) (by decide) | exact Nat.lt_trans (p_at_lt htx) (by decide)) (by first | omega | exact Nat.lt_of_le_of_lt Nat.and_le_right (by decide) | exact Nat.lt_trans (nm_lt _ _) (by decide) | exact Nat.lt_trans (np_lt _ _) (by decide) | exact Nat.lt_trans (p_at_lt htx) (by decide))).mpr qq9)
        refine lv_iload_n hx hb dL_law_28 rfl (lv_at hl 3 rfl) ?_
        refine lv_if_eq (tgt := 82) hx hb dL_law_29 (by decide) (fun c29 => ?_) (fun c29 => ?_)
        · exact absurd c29 (by decide)
        · refine lv_aload_n hx hb dL_law_32 rfl (lv_at hl 1 rfl) ?_
          refine lv_aload_n hx hb dL_law_33 rfl (lv_at hl 2 rfl) ?_
          refine lv_aload_n hx hb dL_law_34 rfl (lv_at hl 0 rfl) ?_
          refine lv_iload hx hb dL_law_35 (lv_at hl 4 rfl) ?_
          refine f_cell (rest := [.ref (ab 0), .ref (aa 0)]) C0 hX hbl hbA (by omega) (k := i) (by omega) hl hP hD hS (va_cwS 2 hts gL_law_L_cell rfl rfl rfl (by decide +kernel) ⟨Nat.le_of_ble_eq_true rfl, Nat.le_of_ble_eq_true rfl⟩) dL_law_37 (Nat.le_of_ble_eq_true rfl) (by omega) (by omega) (fun r2 H1 locs hP hD hS => ?_)
          refine lv_aload_n hx hb dL_law_40 rfl (lv_at hl 0 rfl) ?_
          refine lv_iload hx hb dL_law_41 (lv_at hl 4 rfl) ?_
          refine lv_iconst (v := nI 1) hx hb dL_law_43 (by decide) ?_
          refine lv_iadd hx hb dL_law_44 ?_
          refine lv_topi (nm_r (nI_add _ _) ?_)
          refine f_cell (rest := [.int r2, .ref (ab 0), .ref (aa 0)]) C0 hX hbl hbA (by omega) (k := i + 1) (by omega) hl hP hD hS (va_cwS 2 hts gL_law_L_cell rfl rfl rfl (by decide +kernel) ⟨Nat.le_of_ble_eq_true rfl, Nat.le_of_ble_eq_true rfl⟩) dL_law_45 (Nat.le_of_ble_eq_true rfl) (by omega) (by omega) (fun r4 H3 locs hP hD hS => ?_)
          refine lv_iconst (v := nI 2) hx hb dL_law_48 (by decide) ?_
          refine lv_ishr hx hb dL_law_49 ?_
          refine f_SO (As := [.ref (aa 0), .ref (ab 0), .int r2, .int (r4 >>> (nI 2 &&& 31))]) (rest := []) C0 hE hl hP hD hS (o_isStep l hfl D cY eS eO aa sa bp hB ab sb bq hBp j c hj hc k9 d hk9 hd r2 (r4 >>> (nI 2 &&& 31)) (by first | assumption | omega | exact nm_lt _ _ | exact np_lt _ _ | exact q_s_lt _ | decide)) (va_cwS 4 hts gL_law_L_isStep rfl rfl rfl (by decide +kernel) ⟨Nat.le_of_ble_eq_true rfl, Nat.le_of_ble_eq_true rfl⟩) dL_law_50 rfl (Nat.le_of_ble_eq_true rfl) (by omega) (by omega) (fun _ => rfl) (fun r6 u H5 locs hw hP hD hS => ?_)
          obtain ⟨j2_7, c2_8, k2_9, d2_10⟩ := u
          try dsimp only at hw
          obtain ⟨rfl, hq11, hq12, hq13, hq14, hq15⟩ := hw
          have hj16 : o_J j2_7 := hq11
          have hc17 : o_C c2_8 := hq12
          have hj18 : o_J k2_9 := hq13
          have hc19 : o_C d2_10 := hq14
          have hP : va_P D vwCl (o_w cY aa sa bp j2_7 c2_8 ++ o_w cY ab sb bq k2_9 d2_10) H5 := hP
          have hD : va_D A (o_w cY aa sa bp j2_7 c2_8 ++ o_w cY ab sb bq k2_9 d2_10) := hD
          refine lv_if_eq (tgt := 74) hx hb dL_law_53 (by decide) (fun c53 => ?_) (fun c53 => ?_)
          · exact absurd c53 (by decide)
          · refine lv_iload hx hb dL_law_56 (lv_at hl 4 rfl) ?_
            refine lv_iconst (v := nI 4) hx hb dL_law_58 (by decide) ?_
            refine lv_irem hx hb dL_law_59 (by decide) ?_
            refine lv_topi (nm_r (pk_rem (by omega) (by omega) (by omega)) ?_)
            refine lv_if_gt (tgt := 70) hx hb dL_law_60 (by decide) (fun c60 => ?_) (fun c60 => ?_)
            · have c60 : 0 < (i % 4) := (nI_ltI (a := 0) (b := (i % 4)) (by first | omega | exact Nat.lt_of_le_of_lt Nat.and_le_right (by decide) | exact Nat.lt_trans (nm_lt _ _) (by decide) | exact Nat.lt_trans (np_lt _ _) (by decide) | exact Nat.lt_trans (p_at_lt htx) (by decide)) (by first | omega | exact Nat.lt_of_le_of_lt Nat.and_le_right (by decide) | exact Nat.lt_trans (nm_lt _ _) (by decide) | exact Nat.lt_trans (np_lt _ _) (by decide) | exact Nat.lt_trans (p_at_lt htx) (by decide))).mp c60
              refine lv_iconst (v := nI 1) hx hb dL_law_70 (by decide) ?_
              refine lv_goto (tgt := 75) hx hb dL_law_71 (by decide) ?_
              refine lv_istore_n (lv' := [(3, .int (nI 1)), (0, .ref b), (1, .ref (aa 0)), (2, .ref (ab 0)), (4, .int (nI i))]) hx hb dL_law_75 rfl hl (by decide) rfl (fun ls hl => ?_)
              refine lv_iinc (v := nI (i + 1)) (lv' := [(4, .int (nI (i + 1))), (3, .int (nI 1)), (0, .ref b), (1, .ref (aa 0)), (2, .ref (ab 0))]) hx hb dL_law_76 hl (k := 4) rfl (nI_add _ 1) (by decide) rfl (fun ls hl => ?_)
              refine lv_goto (tgt := 21) hx hb dL_law_79 (by decide) ?_
              refine W.widen (k := cells + 2) (n := slots + 12) (by omega) (by omega) ?_
              exact ih j2_7 c2_8 k2_9 d2_10 (i + 1) _ _ ls (cells + 2) (slots + 12) (by omega) (by omega) (by omega) (by omega) hj16 hc17 hj18 hc19 hq15 hP hD hS (lv_sub hl [2, 3, 4, 1, 0] rfl)
            · have c60 : ¬ (0 < (i % 4)) := fun qq9 => c60 ((nI_ltI (a := 0) (b := (i % 4)) (by first | omega | exact Nat.lt_of_le_of_lt Nat.and_le_right (by decide) | exact Nat.lt_trans (nm_lt _ _) (by decide) | exact Nat.lt_trans (np_lt _ _) (by decide) | exact Nat.lt_trans (p_at_lt htx) (by decide)) (by first | omega | exact Nat.lt_of_le_of_lt Nat.and_le_right (by decide) | exact Nat.lt_trans (nm_lt _ _) (by decide) | exact Nat.lt_trans (np_lt _ _) (by decide) | exact Nat.lt_trans (p_at_lt htx) (by decide))).mpr qq9)
              refine lv_aload_n hx hb dL_law_63 rfl (lv_at hl 1 rfl) ?_
              refine f_SL (As := [.ref (aa 0)]) (rest := []) C0 hE hl hP hD hS (o_isWell l hfl D cY eS eO aa sa bp hB j2_7 c2_8 hj16 hc17  ) (va_cwS 1 hts gL_law_L_isWell rfl rfl rfl (by decide +kernel) ⟨Nat.le_of_ble_eq_true rfl, Nat.le_of_ble_eq_true rfl⟩) dL_law_64 rfl (Nat.le_of_ble_eq_true rfl) (by omega) (by omega) (fun _ => rfl) (fun r21 u H20 locs hw hP hD hS => ?_)
              try dsimp only at hw
              obtain rfl := hw
              have hP : va_P D vwCl (o_w cY aa sa bp j2_7 c2_8 ++ o_w cY ab sb bq k2_9 d2_10) H20 := hP
              have hD : va_D A (o_w cY aa sa bp j2_7 c2_8 ++ o_w cY ab sb bq k2_9 d2_10) := hD
              refine lv_if_eq (tgt := 74) hx hb dL_law_67 (by decide) (fun c67 => ?_) (fun c67 => ?_)
              · exact absurd c67 (by decide)
              · refine lv_iconst (v := nI 1) hx hb dL_law_70 (by decide) ?_
                refine lv_goto (tgt := 75) hx hb dL_law_71 (by decide) ?_
                refine lv_istore_n (lv' := [(3, .int (nI 1)), (0, .ref b), (1, .ref (aa 0)), (2, .ref (ab 0)), (4, .int (nI i))]) hx hb dL_law_75 rfl hl (by decide) rfl (fun ls hl => ?_)
                refine lv_iinc (v := nI (i + 1)) (lv' := [(4, .int (nI (i + 1))), (3, .int (nI 1)), (0, .ref b), (1, .ref (aa 0)), (2, .ref (ab 0))]) hx hb dL_law_76 hl (k := 4) rfl (nI_add _ 1) (by decide) rfl (fun ls hl => ?_)
                refine lv_goto (tgt := 21) hx hb dL_law_79 (by decide) ?_
                refine W.widen (k := cells + 2) (n := slots + 12) (by omega) (by omega) ?_
                exact ih j2_7 c2_8 k2_9 d2_10 (i + 1) _ _ ls (cells + 2) (slots + 12) (by omega) (by omega) (by omega) (by omega) hj16 hc17 hj18 hc19 hq15 hP hD hS (lv_sub hl [2, 3, 4, 1, 0] rfl)
