/-! The reference's state and arithmetic. -/
def m_all (f : Nat → Nat) (cnt : Nat) : Nat → Nat := fun j => if j < 8 then f j else if j = 8 then cnt else 0
theorem m_all_z (f : Nat → Nat) (cnt : Nat) : m_z 9 (m_all f cnt) := fun j hj => by
  show (if j < 8 then f j else if j = 8 then cnt else 0) = 0
  rw [if_neg (by omega), if_neg (by omega)]
theorem m_all8 (f : Nat → Nat) (cnt : Nat) : m_all f cnt 8 = cnt := rfl
theorem m_all_lt (f : Nat → Nat) (cnt : Nat) {k : Nat} (h : k < 8) : m_all f cnt k = f k := if_pos h
theorem m_all_up {f : Nat → Nat} {cnt x v : Nat} (h : x < 8) : m_up (m_all f cnt) x v = m_all (m_up f x v) cnt := by
  funext j
  show (if j = x then v else (if j < 8 then f j else if j = 8 then cnt else 0)) = (if j < 8 then (if j = x then v else f j) else if j = 8 then cnt else 0)
  by_cases e : j = x
  · rw [if_pos e, if_pos (by omega), if_pos e]
  · rw [if_neg e, if_neg e]
theorem m_all_up8 (f : Nat → Nat) (cnt v : Nat) : m_up (m_all f cnt) 8 v = m_all f v := by
  funext j
  show (if j = 8 then v else (if j < 8 then f j else if j = 8 then cnt else 0)) = (if j < 8 then f j else if j = 8 then v else 0)
  by_cases e : j = 8
  · rw [if_pos e, if_neg (by omega), if_pos e]
  · rw [if_neg e, if_neg e, if_neg e]
theorem m_all_xr (f : Nat → Nat) (cnt : Nat) : ∀ k, k ≤ 8 → m_xr (m_all f cnt) k = m_xr f k
  | 0, _ => rfl
  | k + 1, h => by rw [m_xr, m_xr, m_all_xr f cnt k (by omega), m_all_lt f cnt (by omega)]
theorem m_mixE' {f g h : Nat → Nat} {n : Nat} (hg : ∀ j, j < n → g j = h j) (hf : m_z n f) (hh : m_z n h) : m_mix f g n = h := by
  funext j
  show (if j < n then g j else f j) = h j
  by_cases q : j < n
  · rw [if_pos q, hg j q]
  · rw [if_neg q, hf j (by omega), hh j (by omega)]
abbrev m_isR (x : Int32) : Prop := 0 ≤ x ∧ x ≤ 7
abbrev m_isN (x : Int32) : Prop := 0 ≤ x ∧ x ≤ 65535
abbrev m_inI (x lo hi : Int32) : Prop := lo ≤ x ∧ x ≤ hi
theorem m_l_le (a b : Int32) : (a.toInt64 ≤ b.toInt64) = (a ≤ b) := by
  apply propext
  rw [Int64.le_iff_toInt_le, Int32.le_iff_toInt_le, Int32.toInt_toInt64, Int32.toInt_toInt64]
theorem m_isR_of {k : Nat} (h : k < 8) : m_isR (nI k) := ⟨(nI_leI (a := 0) (b := k) (by decide) (by omega)).mpr (by omega), (nI_leI (a := k) (b := 7) (by omega) (by decide)).mpr (by omega)⟩
theorem m_isN_of {k : Nat} (h : k < 65536) : m_isN (nI k) := ⟨(nI_leI (a := 0) (b := k) (by decide) (by omega)).mpr (by omega), (nI_leI (a := k) (b := 65535) (by omega) (by decide)).mpr (by omega)⟩
theorem m_isR_to {x : Int32} (h : m_isR x) : ∃ k, k < 8 ∧ x = nI k := by
  obtain ⟨j, h1, h2⟩ := nI_of2 (x := x) (M := 7) (n := 7) (by decide) (fun q => by have := h.1; exact absurd q (Int32.not_lt.mpr this)) h.2
  exact ⟨j, by omega, h2⟩
theorem m_isN_to {x : Int32} (h : m_isN x) : ∃ k, k < 65536 ∧ x = nI k := by
  obtain ⟨j, h1, h2⟩ := nI_of2 (x := x) (M := 65535) (n := 65535) (by decide) (fun q => by have := h.1; exact absurd q (Int32.not_lt.mpr this)) h.2
  exact ⟨j, by omega, h2⟩
theorem m_in_to {x hi : Int32} {n : Nat} (hM : hi.toInt = n) (h : m_inI x 0 hi) : ∃ k, k ≤ n ∧ x = nI k := 
  nI_of2 (x := x) (M := hi) (n := n) hM (fun q => by have := h.1; exact absurd q (Int32.not_lt.mpr this)) h.2
theorem n_or_xor {x y k : Nat} (hy : y < 2 ^ k) : (x <<< k) ||| y = (x <<< k) ^^^ y := by
  apply Nat.eq_of_testBit_eq
  intro i
  simp only [Nat.testBit_or, Nat.testBit_xor, Nat.testBit_shiftLeft]
  by_cases h : k ≤ i
  · have h1 : y.testBit i = false := Nat.testBit_lt_two_pow (Nat.lt_of_lt_of_le hy (Nat.pow_le_pow_right (by decide) h))
    simp [h1]
  · simp [h]
theorem n_refUp {k c m : Nat} {g : Nat → Nat → Nat} (h : n_L k g) (hm : m = 2 ^ k - 1) (a b : Nat) :
    ((g (a >>> k) (b >>> k) ^^^ (g (a >>> k) (b &&& m) ^^^ g (a &&& m) (b >>> k))) <<< k) ||| (g (a &&& m) (b &&& m) ^^^ g (g (a >>> k) (b >>> k)) c) = n_up g k c a b := by
  obtain ⟨gc, gl, ga, gb, gm, g1⟩ := h
  have gmr : ∀ a b, g a (b % 2 ^ k) = g a b := fun a b => by rw [gc, gm, gc]
  rw [n_or_xor (n_xor_lt (gb _ _) (gb _ _))]
  subst hm
  simp only [Nat.and_two_pow_sub_one_eq_mod, gm, gmr, n_up]
theorem n_ref2_all : ((List.range 4).all fun a => (List.range 4).all fun b => decide ((((((a >>> 1) &&& (b >>> 1)) ^^^ (((a >>> 1) &&& (b &&& 1)) ^^^ ((a &&& 1) &&& (b >>> 1)))) <<< 1) ||| (((a &&& b) &&& 1) ^^^ ((a >>> 1) &&& (b >>> 1)))) = n_2 a b)) = true := by decide +kernel
theorem n_ref2 {a b : Nat} (ha : a < 4) (hb : b < 4) : (((((a >>> 1) &&& (b >>> 1)) ^^^ (((a >>> 1) &&& (b &&& 1)) ^^^ ((a &&& 1) &&& (b >>> 1)))) <<< 1) ||| (((a &&& b) &&& 1) ^^^ ((a >>> 1) &&& (b >>> 1)))) = n_2 a b := by
  have := List.all_eq_true.mp (List.all_eq_true.mp n_ref2_all a (List.mem_range.mpr ha)) b (List.mem_range.mpr hb)
  simpa using this
def m_obP (od pr x : Nat) : Nat := if np x (od / pr) = 1 then od / pr else od
def n_ord (x : Nat) : Int32 := if x = 0 then -1 else nI (m_obP (m_obP (m_obP (m_obP 65535 3 x) 5 x) 17 x) 257 x)
