/-! Programs: how they are read and done. A step: register, sign, first, second operand; an operand from 65536 on is a register. -/
abbrev p_St : Type := Nat × Nat × Nat × Nat
def p_at (tx : Nat → Nat) (len k : Nat) : Nat := if k < len then tx k else 0
theorem p_at_lt {tx : Nat → Nat} {len k : Nat} (h : ∀ j, tx j < 65536) : p_at tx len k < 65536 := by
  rw [p_at]
  split
  · exact h k
  · decide
theorem p_at_in {tx : Nat → Nat} {len k : Nat} (h : 0 < p_at tx len k) : k < len := by
  rw [p_at] at h
  split at h
  · assumption
  · omega
def p_dg (ch : Nat) : Int32 := if 48 ≤ ch ∧ ch ≤ 57 then nI (ch - 48) else -1
def p_rg (ch : Nat) : Option Nat := if 65 ≤ ch ∧ ch ≤ 72 then some (ch - 65) else none
def p_nl (tx : Nat → Nat) (len : Nat) : Nat → Nat → Nat → Nat × Nat
  | 0, v, k => (v, k)
  | n + 1, v, k => if 0 < v ∧ (48 ≤ p_at tx len k ∧ p_at tx len k ≤ 57) ∧ 10 * v + (p_at tx len k - 48) ≤ 65535 then p_nl tx len n (10 * v + (p_at tx len k - 48)) (k + 1) else (v, k)
def p_num (tx : Nat → Nat) (len k : Nat) : Option (Nat × Nat) := if 48 ≤ p_at tx len k ∧ p_at tx len k ≤ 57 then some (p_nl tx len (len - (k + 1)) (p_at tx len k - 48) (k + 1)) else none
def p_opd (tx : Nat → Nat) (len k : Nat) : Option (Nat × Nat) := match p_rg (p_at tx len k) with
  | some x => some (65536 + x, k + 1)
  | none => p_num tx len k
def p_tgt (tx : Nat → Nat) (len k : Nat) : Nat ⊕ (Nat × Nat) := match p_rg (p_at tx len k) with
  | none => .inl k
  | some x => if p_at tx len (k + 1) = 61 then .inr (x, k + 2) else .inl (k + 1)
def p_one (ch : Nat) : Prop := ch = 126 ∨ ch = 37
def p_two (ch : Nat) : Prop := ch = 43 ∨ ch = 42 ∨ ch = 47 ∨ ch = 94
def p_rhs (tx : Nat → Nat) (len k : Nat) : Nat ⊕ (Nat × Nat × Nat × Nat) :=
  if p_at tx len k = 126 ∨ p_at tx len k = 37 then
    match p_opd tx len (k + 1) with
    | none => .inl (k + 1)
    | some q => .inr (p_at tx len k, q.1, 0, q.2)
  else match p_opd tx len k with
    | none => .inl k
    | some q =>
      if p_at tx len q.2 = 43 ∨ p_at tx len q.2 = 42 ∨ p_at tx len q.2 = 47 ∨ p_at tx len q.2 = 94 then
        match p_opd tx len (q.2 + 1) with
        | none => .inl (q.2 + 1)
        | some w => .inr (p_at tx len q.2, q.1, w.1, w.2)
      else .inr (0, q.1, 0, q.2)
def p_step (tx : Nat → Nat) (len k : Nat) : Nat ⊕ (p_St × Nat) := match p_tgt tx len k with
  | .inl e => .inl e
  | .inr q => match p_rhs tx len q.2 with
    | .inl e => .inl e
    | .inr w => .inr ((q.1, w.1, w.2.1, w.2.2.1), w.2.2.2)
def p_prog (tx : Nat → Nat) (len : Nat) : Nat → Nat → Nat ⊕ List p_St
  | 0, k => .inl k
  | n + 1, k => match p_step tx len k with
    | .inl e => .inl e
    | .inr q => if q.2 = len then .inr [q.1] else if p_at tx len q.2 = 59 then (match p_prog tx len n (q.2 + 1) with
        | .inl e => .inl e
        | .inr l => .inr (q.1 :: l)) else .inl q.2
def p_cont (done : List p_St) (r : Nat ⊕ List p_St) : Nat ⊕ List p_St := match r with
  | .inl e => .inl e
  | .inr l => .inr (done ++ l)
/-- a step as it is held -/
def p_ok (x : p_St) : Prop := x.1 < 8 ∧ x.2.1 < 65536 ∧ x.2.2.1 < 65544 ∧ x.2.2.2 < 65544
def p_held (l : List p_St) (t g f e : Nat → Int32) : Prop := ∀ (k : Nat) (x : p_St), l[k]? = some x → t k = nI x.1 ∧ g k = nI x.2.1 ∧ f k = nI x.2.2.1 ∧ e k = nI x.2.2.2 ∧ p_ok x
def p_res (sg l r : Nat) : Option Nat :=
  if sg = 126 then (if l = 0 then none else some (nm 1 (np l 65534)))
  else if sg = 37 then some (np l 32768)
  else if sg = 43 then some (l ^^^ r)
  else if sg = 42 then some (nm l r)
  else if sg = 47 then (if r = 0 then none else some (nm l (np r 65534)))
  else if sg = 94 then some (np l r)
  else some l
def p_resI (o : Option Nat) : Int32 := match o with
  | none => -1
  | some v => nI v
def p_val (op : Nat) (f : Nat → Nat) : Nat := if op < 65536 then op else f (op - 65536)
def p_do (x : p_St) (f : Nat → Nat) (cnt : Nat) : Option ((Nat → Nat) × Nat) := match p_res x.2.1 (p_val x.2.2.1 f) (p_val x.2.2.2 f) with
  | none => none
  | some v => some (m_up f x.1 v, if x.2.1 = 42 then cnt + 1 else cnt)
def p_run : List p_St → Nat → (Nat → Nat) → Nat → Int32 × (Nat → Nat) × Nat
  | [], _, f, cnt => (-1, f, cnt)
  | x :: l, k, f, cnt => match p_do x f cnt with
    | none => (nI k, f, cnt)
    | some q => p_run l (k + 1) q.1 q.2
theorem p_dg_t {ch : Nat} (h : 48 ≤ ch ∧ ch ≤ 57) : p_dg ch = nI (ch - 48) := if_pos h
theorem p_dg_f {ch : Nat} (h : ¬ (48 ≤ ch ∧ ch ≤ 57)) : p_dg ch = -1 := if_neg h
theorem n_nem1 {k : Nat} (h : k < 2 ^ 31) : ¬ nI k = -1 := fun q => by
  have := congrArg Int32.toInt q
  rw [nI_toInt h] at this
  have e : (-1 : Int32).toInt = -1 := by decide
  omega
theorem p_nl_lt (tx : Nat → Nat) (len : Nat) : ∀ n v k, v < 65536 → (p_nl tx len n v k).1 < 65536
  | 0, v, k, h => h
  | n + 1, v, k, h => by
    rw [p_nl]
    split
    · exact p_nl_lt tx len n _ _ (by omega)
    · exact h
theorem p_nl_le (tx : Nat → Nat) (len : Nat) : ∀ n v k, k ≤ len → (p_nl tx len n v k).2 ≤ len ∧ k ≤ (p_nl tx len n v k).2
  | 0, v, k, h => ⟨h, Nat.le_refl _⟩
  | n + 1, v, k, h => by
    rw [p_nl]
    split
    · rename_i q
      have := p_nl_le tx len n (10 * v + (p_at tx len k - 48)) (k + 1) (p_at_in (tx := tx) (len := len) (k := k) (by omega))
      exact ⟨this.1, by omega⟩
    · exact ⟨h, Nat.le_refl _⟩
theorem p_x16 {sg l r : Nat} (hl : l < 65536) (hr : r < 65536) : ∀ v, p_res sg l r = some v → v < 65536 := by
  intro v h
  unfold p_res at h
  repeat' split at h
  all_goals first
    | (cases h; done)
    | (cases h; first | exact nm_lt _ _ | exact np_lt _ _ | exact n_x16 hl hr | assumption)
theorem p_val_lt {op : Nat} {f : Nat → Nat} (hf : ∀ j, f j < 65536) : p_val op f < 65536 := by
  rw [p_val]
  split
  · assumption
  · exact hf _
theorem m_nar {q : Nat} (h : q < 65536) : vp_nar .char (nI q) = nI q := by simp [vp_nar, (pk_charN h).1]
theorem p_nl_stop (tx : Nat → Nat) (len : Nat) {n v k : Nat} (h : ¬ (0 < v ∧ (48 ≤ p_at tx len k ∧ p_at tx len k ≤ 57) ∧ 10 * v + (p_at tx len k - 48) ≤ 65535)) : p_nl tx len n v k = (v, k) := by
  cases n with
  | zero => rfl
  | succ n => rw [p_nl, if_neg h]
theorem p_nl_go (tx : Nat → Nat) (len : Nat) {v k : Nat} (hk : k < len) (h : 0 < v ∧ (48 ≤ p_at tx len k ∧ p_at tx len k ≤ 57) ∧ 10 * v + (p_at tx len k - 48) ≤ 65535) : p_nl tx len (len - (k + 1)) (10 * v + (p_at tx len k - 48)) (k + 1) = p_nl tx len (len - k) v k := by
  rw [show len - k = (len - (k + 1)) + 1 by omega, p_nl, if_pos h]
theorem p_prog_e {tx : Nat → Nat} {len n k w : Nat} (h0 : 0 < n) (h : p_step tx len k = .inl w) : p_prog tx len n k = .inl w := by
  obtain ⟨j, rfl⟩ : ∃ j, n = j + 1 := ⟨n - 1, by omega⟩
  simp only [p_prog, h]
theorem p_prog_end {tx : Nat → Nat} {len n k : Nat} {x : p_St} (h0 : 0 < n) (h : p_step tx len k = .inr (x, len)) : p_prog tx len n k = .inr [x] := by
  obtain ⟨j, rfl⟩ : ∃ j, n = j + 1 := ⟨n - 1, by omega⟩
  simp only [p_prog, h, if_true]
theorem p_prog_bad {tx : Nat → Nat} {len n k w : Nat} {x : p_St} (h0 : 0 < n) (h : p_step tx len k = .inr (x, w)) (h1 : ¬ w = len) (h2 : ¬ p_at tx len w = 59) : p_prog tx len n k = .inl w := by
  obtain ⟨j, rfl⟩ : ∃ j, n = j + 1 := ⟨n - 1, by omega⟩
  simp only [p_prog, h, if_neg h1, if_neg h2]
theorem p_prog_on {tx : Nat → Nat} {len n k w : Nat} {x : p_St} (h0 : 0 < n) (h : p_step tx len k = .inr (x, w)) (h1 : ¬ w = len) (h2 : p_at tx len w = 59) (done : List p_St) : p_cont done (p_prog tx len n k) = p_cont (done ++ [x]) (p_prog tx len (n - 1) (w + 1)) := by
  obtain ⟨j, rfl⟩ : ∃ j, n = j + 1 := ⟨n - 1, by omega⟩
  rw [Nat.add_sub_cancel]
  simp only [p_prog, h, if_neg h1, if_pos h2]
  cases p_prog tx len j (w + 1) with
  | inl e => rfl
  | inr l => simp [p_cont]
theorem p_held_put {done : List p_St} {t g f e : Nat → Int32} {k : Nat} {a b u v : Int32} {x : p_St} (h : p_held done t g f e) (hk : done.length = k) (hx : p_ok x) (h1 : a = nI x.1) (h2 : b = nI x.2.1) (h3 : u = nI x.2.2.1) (h4 : v = nI x.2.2.2) :
    p_held (done ++ [x]) (upd t k a) (upd g k b) (upd f k u) (upd e k v) := by
  intro j y hj
  rcases m_ap hj with ⟨q1, q2⟩ | ⟨q1, q2⟩
  · have hne : ¬ j = k := by omega
    simp only [upd, if_neg hne]
    exact h j y q2
  · have hl : j - done.length < 1 := (List.getElem?_eq_some_iff.mp q2).1
    have hjk : j = k := by omega
    rw [show j - done.length = 0 by omega] at q2
    cases q2
    simp only [upd, if_pos hjk]
    exact ⟨h1, h2, h3, h4, hx⟩
theorem p_opd_lt {tx : Nat → Nat} {len k : Nat} {q : Nat × Nat} (h : p_opd tx len k = some q) : q.1 < 65544 := by
  unfold p_opd at h
  split at h
  · rename_i x hx
    unfold p_rg at hx
    split at hx
    · cases hx; cases h; show 65536 + _ < 65544; omega
    · cases hx
  · unfold p_num at h
    split at h
    · cases h
      exact Nat.lt_trans (p_nl_lt tx len _ _ _ (by omega)) (by decide)
    · cases h
/-- the run from a step on -/
theorem p_run_drop {l : List p_St} {k : Nat} {x : p_St} (h : l[k]? = some x) : l.drop k = x :: l.drop (k + 1) := by
  obtain ⟨h1, h2⟩ := List.getElem?_eq_some_iff.mp h
  rw [← h2]
  exact List.drop_eq_getElem_cons h1
theorem p_run_end {l : List p_St} {k : Nat} (h : l.length ≤ k) (j : Nat) (f : Nat → Nat) (cnt : Nat) : p_run (l.drop k) j f cnt = (-1, f, cnt) := by
  rw [List.drop_eq_nil_of_le h]; rfl
theorem p_run_trap {l : List p_St} {k : Nat} {x : p_St} (h : l[k]? = some x) {f : Nat → Nat} {cnt : Nat} (h2 : p_do x f cnt = none) : p_run (l.drop k) k f cnt = (nI k, f, cnt) := by
  rw [p_run_drop h]
  simp only [p_run, h2]
theorem p_run_on {l : List p_St} {k : Nat} {x : p_St} (h : l[k]? = some x) {f f' : Nat → Nat} {cnt cnt' : Nat} (h2 : p_do x f cnt = some (f', cnt')) : p_run (l.drop (k + 1)) (k + 1) f' cnt' = p_run (l.drop k) k f cnt := by
  rw [p_run_drop h]
  simp only [p_run, h2]
theorem p_cont_nil (r : Nat ⊕ List p_St) : p_cont [] r = r := by cases r <;> rfl
