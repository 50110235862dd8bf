/-! The text that 'written' types, as it is read and done. -/
theorem w_nl (tx : Nat → Nat) (len nb : Nat) (hnb : nb ≤ 65535) : ∀ (n v k : Nat), k + n = len → 0 < v → v = nb / 10 ^ n → (∀ i, i < n → tx (k + i) = 48 + nb / 10 ^ (n - 1 - i) % 10) → p_nl tx len n v k = (nb, len)
  | 0, v, k, hk, h0, hv, hd => by
    rw [Nat.pow_zero, Nat.div_one] at hv
    rw [p_nl, hv, ← hk]
    rfl
  | n + 1, v, k, hk, h0, hv, hd => by
    have d0 := hd 0 (by omega)
    rw [Nat.add_zero, show n + 1 - 1 - 0 = n by omega] at d0
    have ea : p_at tx len k = 48 + nb / 10 ^ n % 10 := by rw [p_at, if_pos (by omega), d0]
    have hm : nb / 10 ^ n % 10 < 10 := Nat.mod_lt _ (by decide)
    have hv2 : 10 * v + nb / 10 ^ n % 10 = nb / 10 ^ n := by
      rw [hv, Nat.pow_succ, ← Nat.div_div_eq_div_mul]
      exact Nat.div_add_mod _ _
    have hle : nb / 10 ^ n ≤ nb := Nat.div_le_self _ _
    have h1 : 48 ≤ 48 + nb / 10 ^ n % 10 ∧ 48 + nb / 10 ^ n % 10 ≤ 57 := ⟨by omega, by omega⟩
    have h2 : 48 + nb / 10 ^ n % 10 - 48 = nb / 10 ^ n % 10 := by omega
    have h3 : 10 * v + nb / 10 ^ n % 10 ≤ 65535 := by rw [hv2]; omega
    have h4 : 0 < nb / 10 ^ n := by rw [← hv2]; omega
    rw [p_nl, ea, h2, if_pos ⟨h0, h1, h3⟩, hv2]
    exact w_nl tx len nb hnb n _ (k + 1) (by omega) h4 rfl (fun i hi => by
      have h5 := hd (i + 1) (by omega)
      rw [show k + 1 + i = k + (i + 1) by omega, h5, show n + 1 - 1 - (i + 1) = n - 1 - i by omega])
theorem w_num {tx : Nat → Nat} {len nb k n : Nat} (hk : k + (n + 1) = len) (hnb : nb ≤ 65535) (hhi : nb < 10 ^ (n + 1)) (hlo : n = 0 ∨ 10 ^ n ≤ nb) (hd : ∀ i, i < n + 1 → tx (k + i) = 48 + nb / 10 ^ (n - i) % 10) : p_num tx len k = some (nb, len) := by
  have d0 := hd 0 (by omega)
  rw [Nat.add_zero, Nat.sub_zero] at d0
  have hq : nb / 10 ^ n < 10 := Nat.div_lt_of_lt_mul (by rw [← Nat.pow_succ]; exact hhi)
  have ea : p_at tx len k = 48 + nb / 10 ^ n := by rw [p_at, if_pos (by omega), d0, Nat.mod_eq_of_lt hq]
  have h1 : 48 ≤ 48 + nb / 10 ^ n ∧ 48 + nb / 10 ^ n ≤ 57 := ⟨Nat.le_add_right _ _, Nat.add_le_add_left (Nat.le_of_lt_succ (n := 9) hq) 48⟩
  have h2 : 48 + nb / 10 ^ n - 48 = nb / 10 ^ n := Nat.add_sub_cancel_left _ _
  rw [p_num, ea, if_pos h1, h2, show len - (k + 1) = n by omega]
  by_cases hn : n = 0
  · subst hn
    rw [p_nl, Nat.pow_zero, Nat.div_one, ← hk]
  · have h3 : 10 ^ n ≤ nb := hlo.resolve_left hn
    have h4 : 0 < nb / 10 ^ n := Nat.div_pos h3 (Nat.pow_pos (by decide))
    rw [w_nl tx len nb hnb n _ (k + 1) (by omega) h4 rfl (fun i hi => by
      have h5 := hd (i + 1) (by omega)
      rw [show k + 1 + i = k + (i + 1) by omega, h5, show n - (i + 1) = n - 1 - i by omega])]
theorem w_tgt {tx : Nat → Nat} {len to : Nat} (hto : to < 8) (hl : 2 < len) (h0 : tx 0 = 65 + to) (h1 : tx 1 = 61) : p_tgt tx len 0 = .inr (to, 2) := by
  have a0 : p_at tx len 0 = 65 + to := by rw [p_at, if_pos (by omega), h0]
  have a1 : p_at tx len (0 + 1) = 61 := by rw [p_at, if_pos (by omega)]; exact h1
  have r0 : p_rg (65 + to) = some to := by rw [p_rg, if_pos (by omega), Nat.add_sub_cancel_left]
  rw [p_tgt, a0, r0]
  show (if p_at tx len (0 + 1) = 61 then (.inr (to, 0 + 2) : Nat ⊕ (Nat × Nat)) else .inl (0 + 1)) = _
  rw [if_pos a1]
theorem w_opd {tx : Nat → Nat} {len nb k n : Nat} (hk : k + (n + 1) = len) (hnb : nb ≤ 65535) (hhi : nb < 10 ^ (n + 1)) (hlo : n = 0 ∨ 10 ^ n ≤ nb) (hd : ∀ i, i < n + 1 → tx (k + i) = 48 + nb / 10 ^ (n - i) % 10) : p_opd tx len k = some (nb, len) ∧ 48 ≤ p_at tx len k ∧ p_at tx len k ≤ 57 := by
  have d0 := hd 0 (by omega)
  rw [Nat.add_zero, Nat.sub_zero] at d0
  have hm : nb / 10 ^ n % 10 < 10 := Nat.mod_lt _ (by decide)
  have ea : p_at tx len k = 48 + nb / 10 ^ n % 10 := by rw [p_at, if_pos (by omega), d0]
  have h1 : 48 ≤ p_at tx len k ∧ p_at tx len k ≤ 57 := ⟨by omega, by omega⟩
  refine ⟨?_, h1⟩
  have r0 : p_rg (p_at tx len k) = none := by rw [p_rg, if_neg (by omega)]
  rw [p_opd, r0]
  exact w_num hk hnb hhi hlo hd
theorem w_prog {tx : Nat → Nat} {len to sg nb n : Nat} (hto : to < 8) (hsg : sg = 43 ∨ sg = 42 ∨ sg = 47 ∨ sg = 94) (hk : 4 + (n + 1) = len) (hnb : nb ≤ 65535) (hhi : nb < 10 ^ (n + 1)) (hlo : n = 0 ∨ 10 ^ n ≤ nb)
    (h0 : tx 0 = 65 + to) (h1 : tx 1 = 61) (h2 : tx 2 = 65 + to) (h3 : tx 3 = sg) (hd : ∀ i, i < n + 1 → tx (4 + i) = 48 + nb / 10 ^ (n - i) % 10) : p_prog tx len 15 0 = .inr [(to, sg, 65536 + to, nb)] := by
  have hT := w_tgt (len := len) hto (by omega) h0 h1
  have a2 : p_at tx len 2 = 65 + to := by rw [p_at, if_pos (by omega), h2]
  have a3 : p_at tx len 3 = sg := by rw [p_at, if_pos (by omega), h3]
  have r2 : p_rg (65 + to) = some to := by rw [p_rg, if_pos (by omega), Nat.add_sub_cancel_left]
  have o2 : p_opd tx len 2 = some (65536 + to, 3) := by rw [p_opd, a2, r2]
  have o4 := (w_opd hk hnb hhi hlo hd).1
  have hR : p_rhs tx len 2 = .inr (sg, 65536 + to, nb, len) := by
    rw [p_rhs, a2, if_neg (by omega), o2]
    show (if p_at tx len 3 = 43 ∨ p_at tx len 3 = 42 ∨ p_at tx len 3 = 47 ∨ p_at tx len 3 = 94 then (match p_opd tx len (3 + 1) with
      | none => .inl (3 + 1)
      | some w => .inr (p_at tx len 3, 65536 + to, w.1, w.2)) else .inr (0, 65536 + to, 0, 3) : Nat ⊕ (Nat × Nat × Nat × Nat)) = _
    rw [a3, if_pos hsg, show p_opd tx len (3 + 1) = some (nb, len) from o4]
  have hS : p_step tx len 0 = .inr ((to, sg, 65536 + to, nb), len) := by
    rw [p_step, hT]
    show (match p_rhs tx len 2 with
      | .inl e => .inl e
      | .inr w => .inr ((to, w.1, w.2.1, w.2.2.1), w.2.2.2) : Nat ⊕ (p_St × Nat)) = _
    rw [hR]
  exact p_prog_end (by decide) hS
theorem w_prog0 {tx : Nat → Nat} {len to nb n : Nat} (hto : to < 8) (hk : 2 + (n + 1) = len) (hnb : nb ≤ 65535) (hhi : nb < 10 ^ (n + 1)) (hlo : n = 0 ∨ 10 ^ n ≤ nb)
    (h0 : tx 0 = 65 + to) (h1 : tx 1 = 61) (hd : ∀ i, i < n + 1 → tx (2 + i) = 48 + nb / 10 ^ (n - i) % 10) : p_prog tx len 15 0 = .inr [(to, 0, nb, 0)] := by
  have hT := w_tgt (len := len) hto (by omega) h0 h1
  obtain ⟨o2, b1, b2⟩ := w_opd hk hnb hhi hlo hd
  have aE : p_at tx len len = 0 := by rw [p_at, if_neg (by omega)]
  have hR : p_rhs tx len 2 = .inr (0, nb, 0, len) := by
    rw [p_rhs, if_neg (by omega), o2]
    show (if p_at tx len len = 43 ∨ p_at tx len len = 42 ∨ p_at tx len len = 47 ∨ p_at tx len len = 94 then (match p_opd tx len (len + 1) with
      | none => .inl (len + 1)
      | some w => .inr (p_at tx len len, nb, w.1, w.2)) else .inr (0, nb, 0, len) : Nat ⊕ (Nat × Nat × Nat × Nat)) = _
    rw [if_neg (by omega)]
  have hS : p_step tx len 0 = .inr ((to, 0, nb, 0), len) := by
    rw [p_step, hT]
    show (match p_rhs tx len 2 with
      | .inl e => .inl e
      | .inr w => .inr ((to, w.1, w.2.1, w.2.2.1), w.2.2.2) : Nat ⊕ (p_St × Nat)) = _
    rw [hR]
  exact p_prog_end (by decide) hS
theorem w_val {f : Nat → Nat} {to : Nat} : p_val (65536 + to) f = f to := by rw [p_val, if_neg (by omega), Nat.add_sub_cancel_left]
theorem w_run {f : Nat → Nat} {cnt to sg nb v : Nat} (hnb : nb < 65536) (hv : p_res sg (f to) nb = some v) : p_run [(to, sg, 65536 + to, nb)] 0 f cnt = (-1, m_up f to v, if sg = 42 then cnt + 1 else cnt) := by
  have h : p_do (to, sg, 65536 + to, nb) f cnt = some (m_up f to v, if sg = 42 then cnt + 1 else cnt) := by
    unfold p_do
    show (match p_res sg (p_val (65536 + to) f) (p_val nb f) with
      | none => none
      | some v => some (m_up f to v, if sg = 42 then cnt + 1 else cnt) : Option ((Nat → Nat) × Nat)) = _
    rw [w_val, show p_val nb f = nb from if_pos hnb, hv]
  rw [p_run, h]
  rfl
theorem w_run_x {f : Nat → Nat} {cnt to sg nb : Nat} (hnb : nb < 65536) (hv : p_res sg (f to) nb = none) : p_run [(to, sg, 65536 + to, nb)] 0 f cnt = (nI 0, f, cnt) := by
  have h : p_do (to, sg, 65536 + to, nb) f cnt = none := by
    unfold p_do
    show (match p_res sg (p_val (65536 + to) f) (p_val nb f) with
      | none => none
      | some v => some (m_up f to v, if sg = 42 then cnt + 1 else cnt) : Option ((Nat → Nat) × Nat)) = _
    rw [w_val, show p_val nb f = nb from if_pos hnb, hv]
  rw [p_run, h]
theorem w_run0 {f : Nat → Nat} {cnt to nb : Nat} (hnb : nb < 65536) : p_run [(to, 0, nb, 0)] 0 f cnt = (-1, m_up f to nb, cnt) := by
  have h : p_do (to, 0, nb, 0) f cnt = some (m_up f to nb, cnt) := by
    unfold p_do
    show (match p_res 0 (p_val nb f) (p_val 0 f) with
      | none => none
      | some v => some (m_up f to v, if (0 : Nat) = 42 then cnt + 1 else cnt) : Option ((Nat → Nat) × Nat)) = _
    rw [show p_val nb f = nb from if_pos hnb]
    rfl
  rw [p_run, h]
  rfl
theorem w_t1 (j : oJ) {to sg nb : Nat} (hto : to < 8) (hsg : sg = 43 ∨ sg = 42 ∨ sg = 47 ∨ sg = 94) (hnb : nb ≤ 65535) (hhi : nb < 10) (hlo : (nb ≤ nb)) : p_prog (o_put (o_put (o_put (o_put (o_put (o_clr j) (65 + to)) (61)) (65 + to)) (sg)) (48 + nb / 1 % 10)).2.2.2.1 (o_put (o_put (o_put (o_put (o_put (o_clr j) (65 + to)) (61)) (65 + to)) (sg)) (48 + nb / 1 % 10)).1 15 0 = .inr [(to, sg, 65536 + to, nb)] :=
  w_prog (len := (o_put (o_put (o_put (o_put (o_put (o_clr j) (65 + to)) (61)) (65 + to)) (sg)) (48 + nb / 1 % 10)).1) (n := 0) hto hsg rfl hnb (show nb < 10 ^ 1 from hhi) (Or.inl rfl) rfl rfl rfl rfl (fun i hi => by rcases (show i = 0 by omega) with rfl <;> first | rfl | simp [o_put, o_clr, m_up])
theorem w_z1 (j : oJ) {to nb : Nat} (hto : to < 8) (hnb : nb ≤ 65535) (hhi : nb < 10) (hlo : (nb ≤ nb)) : p_prog (o_put (o_put (o_put (o_clr j) (65 + to)) (61)) (48 + nb / 1 % 10)).2.2.2.1 (o_put (o_put (o_put (o_clr j) (65 + to)) (61)) (48 + nb / 1 % 10)).1 15 0 = .inr [(to, 0, nb, 0)] :=
  w_prog0 (len := (o_put (o_put (o_put (o_clr j) (65 + to)) (61)) (48 + nb / 1 % 10)).1) (n := 0) hto rfl hnb (show nb < 10 ^ 1 from hhi) (Or.inl rfl) rfl rfl (fun i hi => by rcases (show i = 0 by omega) with rfl <;> first | rfl | simp [o_put, o_clr, m_up])
theorem w_t2 (j : oJ) {to sg nb : Nat} (hto : to < 8) (hsg : sg = 43 ∨ sg = 42 ∨ sg = 47 ∨ sg = 94) (hnb : nb ≤ 65535) (hhi : nb < 100) (hlo : (10 ≤ nb)) : p_prog (o_put (o_put (o_put (o_put (o_put (o_put (o_clr j) (65 + to)) (61)) (65 + to)) (sg)) (48 + nb / 10 % 10)) (48 + nb / 1 % 10)).2.2.2.1 (o_put (o_put (o_put (o_put (o_put (o_put (o_clr j) (65 + to)) (61)) (65 + to)) (sg)) (48 + nb / 10 % 10)) (48 + nb / 1 % 10)).1 15 0 = .inr [(to, sg, 65536 + to, nb)] :=
  w_prog (len := (o_put (o_put (o_put (o_put (o_put (o_put (o_clr j) (65 + to)) (61)) (65 + to)) (sg)) (48 + nb / 10 % 10)) (48 + nb / 1 % 10)).1) (n := 1) hto hsg rfl hnb (show nb < 10 ^ 2 from hhi) (Or.inr (show 10 ^ 1 ≤ nb from hlo)) rfl rfl rfl rfl (fun i hi => by rcases (show i = 0 ∨ i = 1 by omega) with rfl | rfl <;> first | rfl | simp [o_put, o_clr, m_up])
theorem w_z2 (j : oJ) {to nb : Nat} (hto : to < 8) (hnb : nb ≤ 65535) (hhi : nb < 100) (hlo : (10 ≤ nb)) : p_prog (o_put (o_put (o_put (o_put (o_clr j) (65 + to)) (61)) (48 + nb / 10 % 10)) (48 + nb / 1 % 10)).2.2.2.1 (o_put (o_put (o_put (o_put (o_clr j) (65 + to)) (61)) (48 + nb / 10 % 10)) (48 + nb / 1 % 10)).1 15 0 = .inr [(to, 0, nb, 0)] :=
  w_prog0 (len := (o_put (o_put (o_put (o_put (o_clr j) (65 + to)) (61)) (48 + nb / 10 % 10)) (48 + nb / 1 % 10)).1) (n := 1) hto rfl hnb (show nb < 10 ^ 2 from hhi) (Or.inr (show 10 ^ 1 ≤ nb from hlo)) rfl rfl (fun i hi => by rcases (show i = 0 ∨ i = 1 by omega) with rfl | rfl <;> first | rfl | simp [o_put, o_clr, m_up])
theorem w_t3 (j : oJ) {to sg nb : Nat} (hto : to < 8) (hsg : sg = 43 ∨ sg = 42 ∨ sg = 47 ∨ sg = 94) (hnb : nb ≤ 65535) (hhi : nb < 1000) (hlo : (100 ≤ nb)) : p_prog (o_put (o_put (o_put (o_put (o_put (o_put (o_put (o_clr j) (65 + to)) (61)) (65 + to)) (sg)) (48 + nb / 100 % 10)) (48 + nb / 10 % 10)) (48 + nb / 1 % 10)).2.2.2.1 (o_put (o_put (o_put (o_put (o_put (o_put (o_put (o_clr j) (65 + to)) (61)) (65 + to)) (sg)) (48 + nb / 100 % 10)) (48 + nb / 10 % 10)) (48 + nb / 1 % 10)).1 15 0 = .inr [(to, sg, 65536 + to, nb)] :=
  w_prog (len := (o_put (o_put (o_put (o_put (o_put (o_put (o_put (o_clr j) (65 + to)) (61)) (65 + to)) (sg)) (48 + nb / 100 % 10)) (48 + nb / 10 % 10)) (48 + nb / 1 % 10)).1) (n := 2) hto hsg rfl hnb (show nb < 10 ^ 3 from hhi) (Or.inr (show 10 ^ 2 ≤ nb from hlo)) rfl rfl rfl rfl (fun i hi => by rcases (show i = 0 ∨ i = 1 ∨ i = 2 by omega) with rfl | rfl | rfl <;> first | rfl | simp [o_put, o_clr, m_up])
theorem w_z3 (j : oJ) {to nb : Nat} (hto : to < 8) (hnb : nb ≤ 65535) (hhi : nb < 1000) (hlo : (100 ≤ nb)) : p_prog (o_put (o_put (o_put (o_put (o_put (o_clr j) (65 + to)) (61)) (48 + nb / 100 % 10)) (48 + nb / 10 % 10)) (48 + nb / 1 % 10)).2.2.2.1 (o_put (o_put (o_put (o_put (o_put (o_clr j) (65 + to)) (61)) (48 + nb / 100 % 10)) (48 + nb / 10 % 10)) (48 + nb / 1 % 10)).1 15 0 = .inr [(to, 0, nb, 0)] :=
  w_prog0 (len := (o_put (o_put (o_put (o_put (o_put (o_clr j) (65 + to)) (61)) (48 + nb / 100 % 10)) (48 + nb / 10 % 10)) (48 + nb / 1 % 10)).1) (n := 2) hto rfl hnb (show nb < 10 ^ 3 from hhi) (Or.inr (show 10 ^ 2 ≤ nb from hlo)) rfl rfl (fun i hi => by rcases (show i = 0 ∨ i = 1 ∨ i = 2 by omega) with rfl | rfl | rfl <;> first | rfl | simp [o_put, o_clr, m_up])
theorem w_t4 (j : oJ) {to sg nb : Nat} (hto : to < 8) (hsg : sg = 43 ∨ sg = 42 ∨ sg = 47 ∨ sg = 94) (hnb : nb ≤ 65535) (hhi : nb < 10000) (hlo : (1000 ≤ nb)) : p_prog (o_put (o_put (o_put (o_put (o_put (o_put (o_put (o_put (o_clr j) (65 + to)) (61)) (65 + to)) (sg)) (48 + nb / 1000 % 10)) (48 + nb / 100 % 10)) (48 + nb / 10 % 10)) (48 + nb / 1 % 10)).2.2.2.1 (o_put (o_put (o_put (o_put (o_put (o_put (o_put (o_put (o_clr j) (65 + to)) (61)) (65 + to)) (sg)) (48 + nb / 1000 % 10)) (48 + nb / 100 % 10)) (48 + nb / 10 % 10)) (48 + nb / 1 % 10)).1 15 0 = .inr [(to, sg, 65536 + to, nb)] :=
  w_prog (len := (o_put (o_put (o_put (o_put (o_put (o_put (o_put (o_put (o_clr j) (65 + to)) (61)) (65 + to)) (sg)) (48 + nb / 1000 % 10)) (48 + nb / 100 % 10)) (48 + nb / 10 % 10)) (48 + nb / 1 % 10)).1) (n := 3) hto hsg rfl hnb (show nb < 10 ^ 4 from hhi) (Or.inr (show 10 ^ 3 ≤ nb from hlo)) rfl rfl rfl rfl (fun i hi => by rcases (show i = 0 ∨ i = 1 ∨ i = 2 ∨ i = 3 by omega) with rfl | rfl | rfl | rfl <;> first | rfl | simp [o_put, o_clr, m_up])
theorem w_z4 (j : oJ) {to nb : Nat} (hto : to < 8) (hnb : nb ≤ 65535) (hhi : nb < 10000) (hlo : (1000 ≤ nb)) : p_prog (o_put (o_put (o_put (o_put (o_put (o_put (o_clr j) (65 + to)) (61)) (48 + nb / 1000 % 10)) (48 + nb / 100 % 10)) (48 + nb / 10 % 10)) (48 + nb / 1 % 10)).2.2.2.1 (o_put (o_put (o_put (o_put (o_put (o_put (o_clr j) (65 + to)) (61)) (48 + nb / 1000 % 10)) (48 + nb / 100 % 10)) (48 + nb / 10 % 10)) (48 + nb / 1 % 10)).1 15 0 = .inr [(to, 0, nb, 0)] :=
  w_prog0 (len := (o_put (o_put (o_put (o_put (o_put (o_put (o_clr j) (65 + to)) (61)) (48 + nb / 1000 % 10)) (48 + nb / 100 % 10)) (48 + nb / 10 % 10)) (48 + nb / 1 % 10)).1) (n := 3) hto rfl hnb (show nb < 10 ^ 4 from hhi) (Or.inr (show 10 ^ 3 ≤ nb from hlo)) rfl rfl (fun i hi => by rcases (show i = 0 ∨ i = 1 ∨ i = 2 ∨ i = 3 by omega) with rfl | rfl | rfl | rfl <;> first | rfl | simp [o_put, o_clr, m_up])
theorem w_t5 (j : oJ) {to sg nb : Nat} (hto : to < 8) (hsg : sg = 43 ∨ sg = 42 ∨ sg = 47 ∨ sg = 94) (hnb : nb ≤ 65535) (hhi : nb < 100000) (hlo : (10000 ≤ nb)) : p_prog (o_put (o_put (o_put (o_put (o_put (o_put (o_put (o_put (o_put (o_clr j) (65 + to)) (61)) (65 + to)) (sg)) (48 + nb / 10000 % 10)) (48 + nb / 1000 % 10)) (48 + nb / 100 % 10)) (48 + nb / 10 % 10)) (48 + nb / 1 % 10)).2.2.2.1 (o_put (o_put (o_put (o_put (o_put (o_put (o_put (o_put (o_put (o_clr j) (65 + to)) (61)) (65 + to)) (sg)) (48 + nb / 10000 % 10)) (48 + nb / 1000 % 10)) (48 + nb / 100 % 10)) (48 + nb / 10 % 10)) (48 + nb / 1 % 10)).1 15 0 = .inr [(to, sg, 65536 + to, nb)] :=
  w_prog (len := (o_put (o_put (o_put (o_put (o_put (o_put (o_put (o_put (o_put (o_clr j) (65 + to)) (61)) (65 + to)) (sg)) (48 + nb / 10000 % 10)) (48 + nb / 1000 % 10)) (48 + nb / 100 % 10)) (48 + nb / 10 % 10)) (48 + nb / 1 % 10)).1) (n := 4) hto hsg rfl hnb (show nb < 10 ^ 5 from hhi) (Or.inr (show 10 ^ 4 ≤ nb from hlo)) rfl rfl rfl rfl (fun i hi => by rcases (show i = 0 ∨ i = 1 ∨ i = 2 ∨ i = 3 ∨ i = 4 by omega) with rfl | rfl | rfl | rfl | rfl <;> first | rfl | simp [o_put, o_clr, m_up])
theorem w_z5 (j : oJ) {to nb : Nat} (hto : to < 8) (hnb : nb ≤ 65535) (hhi : nb < 100000) (hlo : (10000 ≤ nb)) : p_prog (o_put (o_put (o_put (o_put (o_put (o_put (o_put (o_clr j) (65 + to)) (61)) (48 + nb / 10000 % 10)) (48 + nb / 1000 % 10)) (48 + nb / 100 % 10)) (48 + nb / 10 % 10)) (48 + nb / 1 % 10)).2.2.2.1 (o_put (o_put (o_put (o_put (o_put (o_put (o_put (o_clr j) (65 + to)) (61)) (48 + nb / 10000 % 10)) (48 + nb / 1000 % 10)) (48 + nb / 100 % 10)) (48 + nb / 10 % 10)) (48 + nb / 1 % 10)).1 15 0 = .inr [(to, 0, nb, 0)] :=
  w_prog0 (len := (o_put (o_put (o_put (o_put (o_put (o_put (o_put (o_clr j) (65 + to)) (61)) (48 + nb / 10000 % 10)) (48 + nb / 1000 % 10)) (48 + nb / 100 % 10)) (48 + nb / 10 % 10)) (48 + nb / 1 % 10)).1) (n := 4) hto rfl hnb (show nb < 10 ^ 5 from hhi) (Or.inr (show 10 ^ 4 ≤ nb from hlo)) rfl rfl (fun i hi => by rcases (show i = 0 ∨ i = 1 ∨ i = 2 ∨ i = 3 ∨ i = 4 by omega) with rfl | rfl | rfl | rfl | rfl <;> first | rfl | simp [o_put, o_clr, m_up])
