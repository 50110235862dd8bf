/-! What the reference's calls answer. -/
def m_les (f : Nat → Nat) (sm : Nat) : Nat → Nat → Int32
  | 0, _ => -1
  | n + 1, k => if f k ^^^ sm < f k then nI k else m_les f sm n (k + 1)
theorem m_les_t {f : Nat → Nat} {sm k : Nat} (hk : k < 8) (h : f k ^^^ sm < f k) : m_les f sm (8 - k) k = nI k := by
  rw [show 8 - k = (8 - (k + 1)) + 1 by omega, m_les, if_pos h]
theorem m_les_f {f : Nat → Nat} {sm k : Nat} (hk : k < 8) (h : ¬ f k ^^^ sm < f k) : m_les f sm (8 - (k + 1)) (k + 1) = m_les f sm (8 - k) k := by
  rw [show 8 - k = (8 - (k + 1)) + 1 by omega, m_les, if_neg h]
theorem m_xr_lt {f : Nat → Nat} (hf : ∀ j, f j < 65536) : ∀ k, m_xr f k < 65536
  | 0 => (by decide : (0 : Nat) < 65536)
  | k + 1 => by rw [m_xr]; exact n_x16 (m_xr_lt hf k) (hf k)
def n_fld (x : Nat) : Nat := if x < 2 then 1 else if x < 4 then 2 else if x < 16 then 4 else if x < 256 then 8 else 16
def s_phi (k : Nat) : Nat := nm (1 <<< k) (1 <<< k) ^^^ 1 <<< k
theorem s_phi_all : ((List.range 16).all fun k => decide (k = 0) || (((s_phi k).testBit (k - 1) && ((List.range 16).all fun b => decide (b < k) || !(s_phi k).testBit b)) && !decide (s_phi k = 0))) = true := by decide +kernel
theorem s_phi_is {k : Nat} (h0 : 0 < k) (hk : k < 16) : (s_phi k).testBit (k - 1) = true ∧ (∀ b, b < 16 → k ≤ b → ¬ (s_phi k).testBit b = true) ∧ s_phi k ≠ 0 := by
  have h := List.all_eq_true.mp s_phi_all k (List.mem_range.mpr hk)
  rw [Bool.or_eq_true, decide_eq_true_eq] at h
  have h := h.resolve_left (by omega)
  rw [Bool.and_eq_true, Bool.and_eq_true] at h
  refine ⟨h.1.1, fun b hb hkb => ?_, by simpa using h.2⟩
  have h2 := List.all_eq_true.mp h.1.2 b (List.mem_range.mpr hb)
  rw [Bool.or_eq_true, decide_eq_true_eq] at h2
  have h2 := h2.resolve_left (by omega)
  simpa using h2
theorem s_phi_lt {k : Nat} (hk : k < 16) : s_phi k < 65536 := n_x16 (nm_lt _ _) (n_sh1 hk)
def s_cm (k : Nat) (cv : Nat → Nat) : Prop := ∀ j, j < 16 → cv j = if j + 1 < k then s_phi (j + 1) else 0
def s_bt (k : Nat) (bv : Nat → Nat) : Prop := ∀ j, j < 16 → bv j = if j + 1 < k then 1 <<< (j + 1) else 0
theorem s_cm_up {k : Nat} {cv : Nat → Nat} (h : s_cm k cv) (h0 : 0 < k) : s_cm (k + 1) (m_up cv (k - 1) (s_phi k)) := fun j hj => by
  by_cases e : j = k - 1
  · subst e
    rw [m_ups, if_pos (by omega), show k - 1 + 1 = k by omega]
  · rw [m_upn _ _ e, h j hj]
    by_cases q : j + 1 < k
    · rw [if_pos q, if_pos (by omega)]
    · rw [if_neg q, if_neg (by omega)]
theorem s_bt_up {k : Nat} {bv : Nat → Nat} (h : s_bt k bv) (h0 : 0 < k) : s_bt (k + 1) (m_up bv (k - 1) (1 <<< k)) := fun j hj => by
  by_cases e : j = k - 1
  · subst e
    rw [m_ups, if_pos (by omega), show k - 1 + 1 = k by omega]
  · rw [m_upn _ _ e, h j hj]
    by_cases q : j + 1 < k
    · rw [if_pos q, if_pos (by omega)]
    · rw [if_neg q, if_neg (by omega)]
theorem s_down (b : Nat) : (b = 0 ∧ nI b + (-1) = -1) ∨ ∃ q, b = q + 1 ∧ nI b + (-1) = nI q := by
  cases b with
  | zero => exact Or.inl ⟨rfl, by decide⟩
  | succ q => exact Or.inr ⟨q, rfl, pk_m1 q⟩
theorem n_rec_tail {rl : Nat} {rv : Nat → Nat} {hh : Nat → Nat → Nat} (h : n_rec rl rv hh) (h0 : 0 < rl) : n_rec (rl - 1) rv (fun k => hh (k + 1)) := fun k j h1 h2 => by
  rw [show rl - 1 - 1 - k = rl - 1 - (k + 1) by omega]
  exact h (k + 1) j (by omega) h2
theorem m_lt8 {x : Int32} (h : x < nI 8) : x ≤ 7 := by
  rw [Int32.le_iff_toInt_le]
  rw [Int32.lt_iff_toInt_lt] at h
  have e1 : (nI 8).toInt = 8 := by decide
  have e2 : (7 : Int32).toInt = 7 := by decide
  omega
