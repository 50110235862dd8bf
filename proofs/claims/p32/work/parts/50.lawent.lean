/-! The law's entry. -/
theorem m_celleq {D : va_G} {cl : List vw_C} {ws : va_W} {H : Heap} {A : Nat → Prop} {a : Nat} {e e' : va_E} (h : va_P D cl ws H ∧ va_D A ws) (k : Nat) (hk : ws[k]? = some (a, e)) (he : va_at D cl (a, e) H → va_at D cl (a, e') H) : va_P D cl (ws.set k (a, e')) H ∧ va_D A (ws.set k (a, e')) := by
  obtain ⟨hP, hD⟩ := h
  have hlt := (List.getElem?_eq_some_iff.mp hk).1
  have key : ∀ (i : Nat) (q : Nat × va_E), (ws.set k (a, e'))[i]? = some q → ∃ q0, ws[i]? = some q0 ∧ q0.1 = q.1 ∧ va_at D cl q H := by
    intro i q hq
    by_cases hi : k = i
    · subst hi
      rw [List.getElem?_set_self hlt] at hq
      cases hq
      exact ⟨(a, e), hk, rfl, he (hP k _ hk)⟩
    · rw [List.getElem?_set_ne hi] at hq
      exact ⟨q, hq, rfl, hP i q hq⟩
  refine ⟨fun i q hq => ?_, fun i j x y hi hj hxy => ?_, fun i q hq => ?_⟩
  · obtain ⟨-, -, -, h3⟩ := key i q hq
    exact h3
  · obtain ⟨x0, h1, h2, -⟩ := key i x hi
    obtain ⟨y0, h3, h4, -⟩ := key j y hj
    exact hD.1 i j x0 y0 h1 h3 (h2.trans (hxy.trans h4.symm))
  · obtain ⟨q0, h1, h2, -⟩ := key i q hq
    rw [← h2]
    exact hD.2 i q0 h1
theorem m_refs_eq {D : va_G} {cl : List vw_C} {H : Heap} {a : Nat} {c : ClassId} {f g : Nat → Option Nat} {n : Nat} (h : ∀ j, j < n → f j = g j) : va_at D cl (a, .inl (c, n, .inr (.inr (.inr (.inr f))))) H → va_at D cl (a, .inl (c, n, .inr (.inr (.inr (.inr g))))) H := by
  intro q
  have e : arrV c n (fun j => va_rf (f j)) = arrV c n (fun j => va_rf (g j)) := by
    unfold arrV
    congr 1
    apply congrArg
    funext j
    exact congrArg va_rf (h j.val j.isLt)
  show H[a]? = some (arrV c n (fun j => va_rf (g j)))
  rw [← e]
  exact q
theorem m_ints_eq {D : va_G} {cl : List vw_C} {H : Heap} {a : Nat} {c : ClassId} {f g : Nat → Nat} {n : Nat} (h : f = g) : va_at D cl (a, .inl (c, n, .inl (m_nf f))) H → va_at D cl (a, .inl (c, n, .inl (m_nf g))) H := by
  subst h
  exact id
theorem law_E {s : State} {b : Nat} (hts : ∀ w ∈ lw_tbl, w.before #[Value.ref b] s = true) (hgv : (Jvm.Cond.and given_1 narrow_1).before #[Value.ref b] s = true) : ∃ (eS : Nat → Nat) (eO : Nat), m_E eS eO (fun q : Nat => s.heap.size ≤ q) s s.heap := by
  have hs := flat_of_before _ hgv
  have hA : ∀ a : Nat, a < s.heap.size → ¬ (fun q : Nat => s.heap.size ≤ q) a := fun a h => Nat.not_le.mpr h
  obtain ⟨z0, -, -, -, y0, -⟩ := Cond.exactly_spec (args := #[Value.ref b]) (first := s) (o := none) (s := s) (idx := []) (t := .string RX6 170) (cls := "java/lang/String") (hs _ (by decide +kernel))
  obtain ⟨z1, -, -, -, y1, -⟩ := Cond.exactly_spec (args := #[Value.ref b]) (first := s) (o := none) (s := s) (idx := []) (t := .string RX6 175) (cls := "java/lang/String") (hs _ (by decide +kernel))
  obtain ⟨z2, -, -, -, y2, -⟩ := Cond.exactly_spec (args := #[Value.ref b]) (first := s) (o := none) (s := s) (idx := []) (t := .string RX6 76) (cls := "java/lang/String") (hs _ (by decide +kernel))
  obtain ⟨z3, -, -, -, y3, -⟩ := Cond.exactly_spec (args := #[Value.ref b]) (first := s) (o := none) (s := s) (idx := []) (t := .string RX6 101) (cls := "java/lang/String") (hs _ (by decide +kernel))
  obtain ⟨z4, -, -, -, y4, -⟩ := Cond.exactly_spec (args := #[Value.ref b]) (first := s) (o := none) (s := s) (idx := []) (t := .string RX6 178) (cls := "java/lang/String") (hs _ (by decide +kernel))
  obtain ⟨z5, -, -, -, y5, -⟩ := Cond.exactly_spec (args := #[Value.ref b]) (first := s) (o := none) (s := s) (idx := []) (t := .string RX6 120) (cls := "java/lang/String") (hs _ (by decide +kernel))
  obtain ⟨z6, -, -, -, y6, -⟩ := Cond.exactly_spec (args := #[Value.ref b]) (first := s) (o := none) (s := s) (idx := []) (t := .string RX6 131) (cls := "java/lang/String") (hs _ (by decide +kernel))
  obtain ⟨z7, -, -, -, y7, -⟩ := Cond.exactly_spec (args := #[Value.ref b]) (first := s) (o := none) (s := s) (idx := []) (t := .string RX6 140) (cls := "java/lang/String") (hs _ (by decide +kernel))
  obtain ⟨tO, hO, hT⟩ := va_Tof (N := 4) (f := m_dv) (A := fun q : Nat => s.heap.size ≤ q) (tm := .static "NimberField$Nimbers" "ORDER_DIVISORS" "[I") (ty := .int) (by decide) (hs _ (by decide +kernel)) (va_eqt (z := 4) (hs _ (by decide +kernel)))
    (fun j hj => by
      rcases (show j = 0 ∨ j = 1 ∨ j = 2 ∨ j = 3 by omega) with rfl | rfl | rfl | rfl
      · exact va_eqt (z := 3) (hs _ (by decide +kernel))
      · exact va_eqt (z := 5) (hs _ (by decide +kernel))
      · exact va_eqt (z := 17) (hs _ (by decide +kernel))
      · exact va_eqt (z := 257) (hs _ (by decide +kernel))) hA
  refine ⟨fun k => [z0, z1, z2, z3, z4, z5, z6, z7].getD k 0, tO, ?_⟩
  exact ⟨vx_Zqof (hts _ (by decide +kernel)) (hts _ (by decide +kernel)) (hs _ (by decide +kernel)) hA, vx_Zqof (hts _ (by decide +kernel)) (hts _ (by decide +kernel)) (hs _ (by decide +kernel)) hA,
    ⟨va_Nw.of rfl (hts _ (by decide +kernel)), va_Nw.of rfl (hts _ (by decide +kernel)), va_Nw.of rfl (hts _ (by decide +kernel))⟩, ⟨va_Nw.of rfl (hts _ (by decide +kernel)), va_Nw.of rfl (hts _ (by decide +kernel)), va_Nw.of rfl (hts _ (by decide +kernel))⟩,
    ⟨vk_R.of (hts _ (by decide +kernel)) y0, vk_R.of (hts _ (by decide +kernel)) y1, vk_R.of (hts _ (by decide +kernel)) y2, vk_R.of (hts _ (by decide +kernel)) y3, vk_R.of (hts _ (by decide +kernel)) y4, vk_R.of (hts _ (by decide +kernel)) y5, vk_R.of (hts _ (by decide +kernel)) y6, vk_R.of (hts _ (by decide +kernel)) y7⟩,
    ⟨va_Nc.of (hs _ (by decide +kernel)), va_Nc.of (hs _ (by decide +kernel))⟩,
    ⟨va_Nw.of rfl (hts _ (by decide +kernel)), va_Nw.of rfl (hts _ (by decide +kernel)), va_Nw.of rfl (hts _ (by decide +kernel)), va_Nw.of rfl (hts _ (by decide +kernel)), va_Nw.of rfl (hts _ (by decide +kernel))⟩,
    va_Zof (hts _ (by decide +kernel)) (hts _ (by decide +kernel)) hO hA, hT⟩
theorem law_Ka {s : State} {args : Array Value} {ty : FieldType} (hty : ∀ C, ty ≠ .object C) (h : (Cond.arrayClass ty).before args s = true) : ∃ cA : ClassId, ArrOfT s cA ty ∧ va_RA s cA ty := by
  obtain ⟨cA, kA, comp, h1, h2, h3⟩ := Cond.arrayClass_spec h
  refine ⟨cA, fun n z => ⟨(fun k h => by cases h), kA, h2, comp, h3⟩, ?_⟩
  cases ty with
  | object C => exact absurd rfl (hty C)
  | _ => exact h1
theorem law_Ko {s : State} {args : Array Value} {C : String} (h : (Cond.arrayOver (.object C)).before args s = true) : ∃ cA : ClassId, ArrOfT s cA (.object C) ∧ va_RA s cA (.object C) := by
  obtain ⟨comp, cA, k, h1, h2, h3, h4, h5⟩ := Cond.arrayOver_spec h
  exact ⟨cA, fun n z => ⟨(fun k h => by cases h), k, h3, comp, h4⟩, k, comp, h3, h4, h1, h5⟩
set_option maxRecDepth 100000 in
theorem law_Kc {s : State} {b : Nat} (hts : ∀ w ∈ lw_tbl, w.before #[Value.ref b] s = true) : ∃ (D : va_G) (cY : Nat → ClassId), va_K D vwCl (m_ty cY) s := by
  have ht2 : ∀ w ∈ wsL_law, w.before #[Value.ref b] s = true := fun w hw => hts w (wsL_law_in w hw)
  obtain ⟨c0, i0, k0⟩ := u_known (C := RX0) (T := TX0) (N := 2) (n := 2) ht2 inlX0 (hts (.instantiable RX0 2) (by decide +kernel))
  obtain ⟨c1, i1, k1⟩ := u_known (C := RX1) (T := TX1) (N := 2) (n := 2) ht2 inlX1 (hts (.instantiable RX1 2) (by decide +kernel))
  obtain ⟨c2, i2, k2⟩ := u_known (C := RX2) (T := TX2) (N := 1) (n := 1) ht2 inlX2 (hts (.instantiable RX2 1) (by decide +kernel))
  obtain ⟨c3, i3, k3⟩ := u_known (C := RX3) (T := TX3) (N := 5) (n := 5) ht2 inlX3 (hts (.instantiable RX3 5) (by decide +kernel))
  obtain ⟨c4, i4, k4⟩ := u_known (C := RX4) (T := TX4) (N := 2) (n := 2) ht2 inlX4 (hts (.instantiable RX4 2) (by decide +kernel))
  obtain ⟨c5, i5, k5⟩ := u_known (C := RX5) (T := TX5) (N := 4) (n := 4) ht2 inlX5 (hts (.instantiable RX5 4) (by decide +kernel))
  obtain ⟨c6, i6, k6⟩ := u_known (C := RX6) (T := TX6) (N := 8) (n := 8) ht2 inlX6 (hts (.instantiable RX6 8) (by decide +kernel))
  obtain ⟨y0, g0⟩ := law_Ka (ty := .int) (fun C h => by cases h) (hts (.arrayClass .int) (by decide +kernel))
  obtain ⟨y1, g1⟩ := law_Ka (ty := .char) (fun C h => by cases h) (hts (.arrayClass .char) (by decide +kernel))
  obtain ⟨y3, g3⟩ := law_Ko (C := RX4) (hts (.arrayOver (.object RX4)) (by decide +kernel))
  obtain ⟨y4, g4⟩ := law_Ko (C := RX5) (hts (.arrayOver (.object RX5)) (by decide +kernel))
  refine ⟨(fun k => [c0, c1, c2, c3, c4, c5, c6].getD k c0, fun k => [i0, i1, i2, i3, i4, i5, i6].getD k i0), fun k => [y0, y1, y0, y3, y4].getD k y0, fun k q hq => ?_, fun k q hq => ?_⟩
  · match k, hq with
    | 0, hq => cases hq; exact k0
    | 1, hq => cases hq; exact k1
    | 2, hq => cases hq; exact k2
    | 3, hq => cases hq; exact k3
    | 4, hq => cases hq; exact k4
    | 5, hq => cases hq; exact k5
    | 6, hq => cases hq; exact k6
    | k + 7, hq => cases hq
  · match k, hq with
    | 0, hq => cases hq; exact g0
    | 1, hq => cases hq; exact g1
    | 2, hq => cases hq; exact g0
    | 3, hq => cases hq; exact g3
    | 4, hq => cases hq; exact g4
    | k + 5, hq => cases hq
