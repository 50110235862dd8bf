/-! The reference's reading and doing of programs. -/
def p_ref (op : Nat) : Int32 := if op < 65536 then nI op else -(nI (op - 65536)) - 1
theorem p_ref_n {op : Nat} (h : op < 65536) : p_ref op = nI op := if_pos h
theorem p_ref_r {x : Nat} : p_ref (65536 + x) = -(nI x) - 1 := by
  rw [p_ref, if_neg (by omega), show 65536 + x - 65536 = x by omega]
theorem p_neg_toInt {x : Nat} (h : x < 8) : (-(nI x) - 1 : Int32).toInt = -(x : Int) - 1 := by
  rcases (show x = 0 ∨ x = 1 ∨ x = 2 ∨ x = 3 ∨ x = 4 ∨ x = 5 ∨ x = 6 ∨ x = 7 by omega) with h | h | h | h | h | h | h | h <;> subst h <;> decide
theorem p_ref_ge {op : Nat} (h : op < 65544) : (0 ≤ p_ref op) ↔ op < 65536 := by
  by_cases q : op < 65536
  · rw [p_ref_n q]
    exact ⟨fun _ => q, fun _ => (nI_leI (a := 0) (b := op) (by decide) (by omega)).mpr (by omega)⟩
  · rw [show op = 65536 + (op - 65536) by omega, p_ref_r, Int32.le_iff_toInt_le, p_neg_toInt (by omega)]
    have : (0 : Int32).toInt = 0 := rfl
    omega
theorem p_ref_ix {op : Nat} (h : op < 65544) (h2 : ¬ op < 65536) : -(p_ref op) - nI 1 = nI (op - 65536) := by
  rw [show op = 65536 + (op - 65536) by omega, p_ref_r, show 65536 + (op - 65536) - 65536 = op - 65536 by omega]
  generalize hk : op - 65536 = k
  rcases (show k = 0 ∨ k = 1 ∨ k = 2 ∨ k = 3 ∨ k = 4 ∨ k = 5 ∨ k = 6 ∨ k = 7 by omega) with h | h | h | h | h | h | h | h <;> subst h <;> decide
theorem p_ref_reg {ch : Nat} (h : 65 ≤ ch ∧ ch ≤ 72) : nI 65 - nI ch - nI 1 = p_ref (65536 + (ch - 65)) := by
  rw [p_ref_r]
  rcases (show ch = 65 ∨ ch = 66 ∨ ch = 67 ∨ ch = 68 ∨ ch = 69 ∨ ch = 70 ∨ ch = 71 ∨ ch = 72 by omega) with h | h | h | h | h | h | h | h <;> subst h <;> decide
theorem p_at_of {tx : Nat → Nat} {len k : Nat} (h : k < len) : p_at tx len k = tx k := if_pos h
theorem p_rhs_two {tx : Nat → Nat} {len k : Nat} {w : Nat × Nat × Nat × Nat} (h : p_rhs tx len k = .inr w) : ((w.1 = 0 ∨ w.1 = 126 ∨ w.1 = 37) ∧ w.2.2.1 = 0) ∨ (w.1 = 43 ∨ w.1 = 42 ∨ w.1 = 47 ∨ w.1 = 94) := by
  unfold p_rhs at h
  split at h
  · rename_i q
    split at h
    · cases h
    · cases h
      exact Or.inl ⟨by dsimp only; omega, rfl⟩
  · split at h
    · cases h
    · split at h
      · rename_i q
        split at h
        · cases h
        · cases h
          exact Or.inr (by dsimp only; omega)
      · cases h
        exact Or.inl ⟨Or.inl rfl, rfl⟩
theorem p_opd_adv {tx : Nat → Nat} {len k : Nat} {q : Nat × Nat} (h : p_opd tx len k = some q) : k + 1 ≤ q.2 ∧ q.2 ≤ len := by
  unfold p_opd at h
  split at h
  · rename_i x hx
    unfold p_rg at hx
    split at hx
    · rename_i hc
      cases h
      have := p_at_in (tx := tx) (len := len) (k := k) (by omega)
      exact ⟨Nat.le_refl _, this⟩
    · cases hx
  · unfold p_num at h
    split at h
    · rename_i hc
      have h1 := p_at_in (tx := tx) (len := len) (k := k) (by omega)
      have h2 := p_nl_le tx len (len - (k + 1)) (p_at tx len k - 48) (k + 1) h1
      cases h
      exact ⟨h2.2, h2.1⟩
    · cases h
theorem p_rhs_adv {tx : Nat → Nat} {len k : Nat} {w : Nat × Nat × Nat × Nat} (h : p_rhs tx len k = .inr w) : k + 1 ≤ w.2.2.2 ∧ w.2.2.2 ≤ len := by
  unfold p_rhs at h
  split at h
  · split at h
    · cases h
    · rename_i q hq
      have := p_opd_adv hq
      cases h
      dsimp only
      omega
  · split at h
    · cases h
    · rename_i q hq
      have h1 := p_opd_adv hq
      split at h
      · split at h
        · cases h
        · rename_i w hw
          have h2 := p_opd_adv hw
          cases h
          dsimp only
          omega
      · cases h
        dsimp only
        omega
theorem p_step_adv {tx : Nat → Nat} {len k : Nat} {q : p_St × Nat} (h : p_step tx len k = .inr q) : k + 3 ≤ q.2 ∧ q.2 ≤ len := by
  unfold p_step p_tgt at h
  split at h
  · cases h
  · rename_i w hw
    split at hw
    · cases hw
    · split at hw
      · cases hw
        split at h
        · cases h
        · rename_i v hv
          have := p_rhs_adv hv
          cases h
          dsimp only at this ⊢
          omega
      · cases hw
theorem p_step_end {tx : Nat → Nat} {len k : Nat} (h : len ≤ k) : p_step tx len k = .inl k := by
  have h0 : p_at tx len k = 0 := if_neg (by omega)
  have h1 : p_rg 0 = none := rfl
  simp only [p_step, p_tgt, h0, h1]
theorem p_prog_e' {tx : Nat → Nat} {len n k w : Nat} (h : p_step tx len k = .inl w) (h0 : 60 ≤ 4 * n + k) (hl : len ≤ 60) : p_prog tx len n k = .inl w := by
  cases n with
  | zero =>
    rw [p_step_end (by omega)] at h
    cases h
    rfl
  | succ n => exact p_prog_e (by omega) h
theorem p_pos {tx : Nat → Nat} {len n k : Nat} {q : p_St × Nat} (h : p_step tx len k = .inr q) (h0 : 60 ≤ 4 * n + k) (hl : len ≤ 60) : 0 < n := by
  have := p_step_adv h
  omega
theorem p_cont_inr {done ps : List p_St} {r : Nat ⊕ List p_St} (h : p_cont done r = .inr ps) : ∃ l, r = .inr l ∧ ps = done ++ l := by
  cases r with
  | inl e => cases h
  | inr l => cases h; exact ⟨l, rfl, rfl⟩
/-- a valid program's next step -/
theorem p_valid {tx : Nat → Nat} {len n k : Nat} {done ps : List p_St} (h : p_cont done (p_prog tx len n k) = .inr ps) (h0 : 60 ≤ 4 * n + k) (hl : len ≤ 60) : ∃ (x : p_St) (w : Nat), p_step tx len k = .inr (x, w) ∧ ps[done.length]? = some x ∧ 0 < n ∧
    ((p_at tx len w = 59 ∧ p_cont (done ++ [x]) (p_prog tx len (n - 1) (w + 1)) = .inr ps) ∨ (¬ p_at tx len w = 59 ∧ ps = done ++ [x])) := by
  cases hs : p_step tx len k with
  | inl e =>
    rw [p_prog_e' hs h0 hl] at h
    cases h
  | inr q =>
    obtain ⟨x, w⟩ := q
    have hn := p_pos hs h0 hl
    refine ⟨x, w, rfl, ?_, hn, ?_⟩
    · obtain ⟨m, rfl⟩ : ∃ j, n = j + 1 := ⟨n - 1, by omega⟩
      obtain ⟨l, h1, rfl⟩ := p_cont_inr h
      simp only [p_prog, hs] at h1
      split at h1
      · cases h1; simp
      · split at h1
        · split at h1
          · cases h1
          · cases h1; simp
        · cases h1
    · by_cases h1 : w = len
      · subst h1
        rw [p_prog_end hn hs] at h
        have h2 : p_at tx w w = 0 := if_neg (by omega)
        refine Or.inr ⟨by omega, ?_⟩
        have h' : (Sum.inr (done ++ [x]) : Nat ⊕ List p_St) = .inr ps := h
        cases h'
        rfl
      · by_cases h2 : p_at tx len w = 59
        · refine Or.inl ⟨h2, ?_⟩
          rw [← p_prog_on hn hs h1 h2]
          exact h
        · rw [p_prog_bad hn hs h1 h2] at h
          cases h
/-- recorded states, the last one first -/
def n_rec (rl : Nat) (rv : Nat → Nat) (hh : Nat → Nat → Nat) : Prop := ∀ k j : Nat, k < rl → j < 9 → rv (9 * (rl - 1 - k) + j) = hh k j
def n_push (av : Nat → Nat) (hh : Nat → Nat → Nat) : Nat → Nat → Nat := fun k j => if k = 0 then av j else hh (k - 1) j
theorem m_up_lt {f : Nat → Nat} {x v : Nat} (hf : ∀ j, f j < 65536) (hv : v < 65536) : ∀ j, m_up f x v j < 65536 := fun j => by
  show (if j = x then v else f j) < 65536
  split
  · exact hv
  · exact hf j
