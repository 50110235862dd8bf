/-! More arithmetic: orders, equations, products by halves, the table of the bits' products. -/
def n_ordS (x : Nat) (r : Int32) : Prop := (r = -1 ∧ ∀ k, 1 ≤ k → k ≤ 255 → np x k ≠ 1) ∨ ∃ k, r = nI k ∧ 1 ≤ k ∧ k ≤ 255 ∧ np x k = 1 ∧ ∀ j, 1 ≤ j → j < k → np x j ≠ 1
def n_ls : Nat → Nat → Nat → Nat × Nat
  | 0, sol, re => (sol, re)
  | b + 1, sol, re => if re.testBit b then n_ls b (sol ^^^ 1 <<< (b + 1)) (re ^^^ (nm (1 <<< (b + 1)) (1 <<< (b + 1)) ^^^ 1 <<< (b + 1))) else n_ls b sol re
theorem n_ls_t {b sol re : Nat} (h0 : 0 < b) (h : re.testBit (b - 1) = true) : n_ls (b - 1) (sol ^^^ 1 <<< b) (re ^^^ (nm (1 <<< b) (1 <<< b) ^^^ 1 <<< b)) = n_ls b sol re := by
  obtain ⟨k, rfl⟩ : ∃ k, b = k + 1 := ⟨b - 1, by omega⟩
  rw [Nat.add_sub_cancel] at h ⊢
  rw [n_ls, if_pos h]
theorem n_ls_f {b sol re : Nat} (h0 : 0 < b) (h : ¬ re.testBit (b - 1) = true) : n_ls (b - 1) sol re = n_ls b sol re := by
  obtain ⟨k, rfl⟩ : ∃ k, b = k + 1 := ⟨b - 1, by omega⟩
  rw [Nat.add_sub_cancel] at h ⊢
  rw [n_ls, if_neg h]
def n_sol (x : Nat) : Int32 := if (n_ls 15 0 x).2 = 0 then nI (n_ls 15 0 x).1 else -1
theorem n_sh1 {b : Nat} (h : b < 16) : 1 <<< b < 65536 := by
  rw [Nat.one_shiftLeft]
  exact Nat.pow_lt_pow_right (by decide) h
theorem n_x16 {a b : Nat} (ha : a < 65536) (hb : b < 65536) : a ^^^ b < 65536 := Nat.xor_lt_two_pow (n := 16) ha hb
theorem n_g0 {k : Nat} {g : Nat → Nat → Nat} (h : n_L k g) (a : Nat) : g 0 a = 0 := by
  have := h.2.1 0 0 a
  rw [Nat.xor_self] at this
  rw [this, Nat.xor_self]
theorem n_kar {k c m : Nat} {g : Nat → Nat → Nat} (h : n_L k g) (hm : m = 2 ^ k - 1) (x y : Nat) :
    (((g (x >>> k ^^^ x &&& m) (y >>> k ^^^ y &&& m) ^^^ g (x &&& m) (y &&& m)) <<< k) ^^^ g (g (x >>> k) (y >>> k)) c) ^^^ g (x &&& m) (y &&& m) = n_up g k c x y := by
  obtain ⟨gc, gl, ga, gb, gm, g1⟩ := h
  have gr : ∀ a b c, g a (b ^^^ c) = g a b ^^^ g a c := fun a b c => by rw [gc, gl, gc b, gc c]
  have gmr : ∀ a b, g a (b % 2 ^ k) = g a b := fun a b => by rw [gc, gm, gc]
  subst hm
  simp only [Nat.and_two_pow_sub_one_eq_mod, gl, gr, gm, gmr, n_up]
  have e : g (x >>> k) (y >>> k) ^^^ g x (y >>> k) ^^^ (g (x >>> k) y ^^^ g x y) ^^^ g x y = g (x >>> k) (y >>> k) ^^^ (g (x >>> k) y ^^^ g x (y >>> k)) := by
    rw [Nat.xor_assoc _ _ (g x y), Nat.xor_assoc (g (x >>> k) y), Nat.xor_self, Nat.xor_zero]
    ac_rfl
  first
    | rw [e]
    | (rw [show g (x >>> k) (y >>> k) ^^^ g (x >>> k) y ^^^ (g x (y >>> k) ^^^ g x y) ^^^ g x y = g (x >>> k) (y >>> k) ^^^ (g (x >>> k) y ^^^ g x (y >>> k)) from by
        rw [Nat.xor_assoc _ _ (g x y), Nat.xor_assoc (g x (y >>> k)), Nat.xor_self, Nat.xor_zero]
        ac_rfl])
  ac_rfl
/-- a factor below 2 -/
theorem n_sm {k : Nat} {g : Nat → Nat → Nat} (h : n_L k g) {x y : Nat} (hx : x < 2) (hy : y < 2 ^ k) : x * y = g x y := by
  rcases (show x = 0 ∨ x = 1 by omega) with rfl | rfl
  · rw [n_g0 h, Nat.zero_mul]
  · rw [h.2.2.2.2.2, Nat.mod_eq_of_lt hy, Nat.one_mul]
theorem n_sm' {k : Nat} {g : Nat → Nat → Nat} (h : n_L k g) {x y : Nat} (hx : x < 2 ^ k) (hy : y < 2) : x * y = g x y := by
  rw [Nat.mul_comm, h.1, n_sm h hy hx]
/-- what the table's filling rests on -/
def n_tQ (h i j : Nat) : Bool := decide (nm (2 ^ i) (2 ^ j) < 2 ^ h) && (decide (nm (2 ^ (i + h)) (2 ^ (j + h)) = (nm (2 ^ i) (2 ^ j) <<< h) ^^^ nm (nm (2 ^ i) (2 ^ j)) (2 ^ (h - 1))) &&
    (decide (nm (2 ^ (i + h)) (2 ^ j) = nm (2 ^ i) (2 ^ j) <<< h) && decide (nm (2 ^ i) (2 ^ (j + h)) = nm (2 ^ i) (2 ^ j) <<< h)))
theorem n_tQ_all : ([1, 2, 4, 8].all fun h => (List.range h).all fun i => (List.range h).all fun j => n_tQ h i j) = true := by decide +kernel
theorem n_t1 (h : Nat) (_ : h < 9) (q : h = 1 ∨ h = 2 ∨ h = 4 ∨ h = 8) (i : Nat) (hi : i < h) (j : Nat) (hj : j < h) :
    nm (2 ^ i) (2 ^ j) < 2 ^ h ∧ nm (2 ^ (i + h)) (2 ^ (j + h)) = (nm (2 ^ i) (2 ^ j) <<< h) ^^^ nm (nm (2 ^ i) (2 ^ j)) (2 ^ (h - 1)) ∧
    nm (2 ^ (i + h)) (2 ^ j) = nm (2 ^ i) (2 ^ j) <<< h ∧ nm (2 ^ i) (2 ^ (j + h)) = nm (2 ^ i) (2 ^ j) <<< h := by
  have h1 := List.all_eq_true.mp n_tQ_all h (by rcases q with q | q | q | q <;> subst q <;> simp)
  have h2 := List.all_eq_true.mp (List.all_eq_true.mp h1 i (List.mem_range.mpr hi)) j (List.mem_range.mpr hj)
  simp only [n_tQ, Bool.and_eq_true, decide_eq_true_eq] at h2
  exact h2
def n_H (h : Nat) : Prop := h = 1 ∨ h = 2 ∨ h = 4 ∨ h = 8
theorem n_H9 {h : Nat} (q : n_H h) : 1 ≤ h ∧ h < 9 := by rcases q with q | q | q | q <;> omega
theorem n_tA {h i j : Nat} (q : n_H h) (hi : h ≤ i) (hj : h ≤ j) (hi2 : i < 2 * h) (hj2 : j < 2 * h) :
    nm (2 ^ (i - h)) (2 ^ (j - h)) < 2 ^ h ∧ nm (2 ^ i) (2 ^ j) = (nm (2 ^ (i - h)) (2 ^ (j - h)) <<< h) ^^^ nm (nm (2 ^ (i - h)) (2 ^ (j - h))) (2 ^ (h - 1)) := by
  have := n_t1 h (n_H9 q).2 q (i - h) (by omega) (j - h) (by omega)
  rw [Nat.sub_add_cancel hi, Nat.sub_add_cancel hj] at this
  exact ⟨this.1, this.2.1⟩
theorem n_tB {h i j : Nat} (q : n_H h) (hi : h ≤ i) (hj : j < h) (hi2 : i < 2 * h) : nm (2 ^ i) (2 ^ j) = nm (2 ^ (i - h)) (2 ^ j) <<< h := by
  have := n_t1 h (n_H9 q).2 q (i - h) (by omega) j hj
  rw [Nat.sub_add_cancel hi] at this
  exact this.2.2.1
theorem n_tC {h i j : Nat} (q : n_H h) (hi : i < h) (hj : h ≤ j) (hj2 : j < 2 * h) : nm (2 ^ i) (2 ^ j) = nm (2 ^ i) (2 ^ (j - h)) <<< h := by
  have := n_t1 h (n_H9 q).2 q i hi (j - h) (by omega)
  rw [Nat.sub_add_cancel hj] at this
  exact this.2.2.2
/-- the table is right below n -/
def n_tb0 (n : Nat) (f : Nat → Nat) : Prop := ∀ i j : Nat, i < n → j < n → f (16 * i + j) = nm (2 ^ i) (2 ^ j)
/-- .. and in the rows below i, and in row i below j -/
def n_tb1 (h i j : Nat) (f : Nat → Nat) : Prop := ∀ a b : Nat, (a < h ∧ b < h) ∨ (a < i ∧ b < 2 * h) ∨ (a = i ∧ b < j) → f (16 * a + b) = nm (2 ^ a) (2 ^ b)
theorem n_tb1_0 {h : Nat} {f : Nat → Nat} (q : n_tb0 h f) : n_tb1 h 0 0 f := fun a b w => by
  rcases w with w | w | w
  · exact q a b w.1 w.2
  · omega
  · omega
theorem n_tb1_row {h i j : Nat} {f : Nat → Nat} (q : n_tb1 h i j f) (hj : 2 * h ≤ j) : n_tb1 h (i + 1) 0 f := fun a b w => by
  refine q a b ?_
  omega
theorem n_tb1_end {h i j : Nat} {f : Nat → Nat} (q : n_tb1 h i j f) (hi : 2 * h ≤ i) : n_tb0 (2 * h) f := fun a b ha hb => q a b (by omega)
theorem n_tb1_put {h i j v : Nat} {f : Nat → Nat} (q : n_tb1 h i j f) (hj : j < 16) (h2 : 2 * h ≤ 16) (hv : v = nm (2 ^ i) (2 ^ j)) : n_tb1 h i (j + 1) (m_up f (16 * i + j) v) := fun a b w => by
  by_cases e : 16 * a + b = 16 * i + j
  · have ha : a = i := by omega
    have hb : b = j := by omega
    subst ha hb
    rw [e, m_ups]
    exact hv
  · rw [m_upn f v e]
    refine q a b ?_
    omega
theorem n_tb1_skip {h i j : Nat} {f : Nat → Nat} (q : n_tb1 h i j f) (hi : i < h) (hj : j < h) : n_tb1 h i (j + 1) f := fun a b w => by
  refine q a b ?_
  omega
