/-! The arithmetic of nimbers, on Nat: products by halves, total and with their laws; powers; bits. -/
/-- the product of the field of twice as many bits -/
def n_up (g : Nat → Nat → Nat) (k c : Nat) (a b : Nat) : Nat :=
  ((g (a >>> k) (b >>> k) ^^^ (g (a >>> k) b ^^^ g a (b >>> k))) <<< k) ^^^ (g a b ^^^ g (g (a >>> k) (b >>> k)) c)
def n_1 (a b : Nat) : Nat := (a &&& b) % 2 ^ 1
def n_2 : Nat → Nat → Nat := n_up n_1 1 1
def n_4 : Nat → Nat → Nat := n_up n_2 2 2
def n_8 : Nat → Nat → Nat := n_up n_4 4 8
def nm : Nat → Nat → Nat := n_up n_8 8 128
/-- the laws of a field's product, of k bits -/
def n_L (k : Nat) (g : Nat → Nat → Nat) : Prop :=
  (∀ a b, g a b = g b a) ∧ (∀ a b c, g (a ^^^ b) c = g a c ^^^ g b c) ∧ (∀ a b c, g (g a b) c = g a (g b c)) ∧ (∀ a b, g a b < 2 ^ k) ∧ (∀ a b, g (a % 2 ^ k) b = g a b) ∧ (∀ a, g 1 a = a % 2 ^ k)
theorem n_xor_lt {a b k : Nat} (ha : a < 2 ^ k) (hb : b < 2 ^ k) : a ^^^ b < 2 ^ k := Nat.xor_lt_two_pow ha hb
theorem n_pair_hi {x y k : Nat} (hy : y < 2 ^ k) : ((x <<< k) ^^^ y) >>> k = x := by
  apply Nat.eq_of_testBit_eq
  intro i
  simp only [Nat.testBit_shiftRight, Nat.testBit_xor, Nat.testBit_shiftLeft]
  have h1 : y.testBit (k + i) = false := Nat.testBit_lt_two_pow (Nat.lt_of_lt_of_le hy (Nat.pow_le_pow_right (by decide) (by omega)))
  rw [h1, show k + i - k = i by omega]
  simp
theorem n_pair_lo {x y k : Nat} (hy : y < 2 ^ k) : ((x <<< k) ^^^ y) % 2 ^ k = y := by
  apply Nat.eq_of_testBit_eq
  intro i
  simp only [Nat.testBit_mod_two_pow, Nat.testBit_xor, Nat.testBit_shiftLeft]
  by_cases h : i < k
  · simp [h, Nat.not_le.mpr h]
  · have h1 : y.testBit i = false := Nat.testBit_lt_two_pow (Nat.lt_of_lt_of_le hy (Nat.pow_le_pow_right (by decide) (by omega)))
    simp [h, h1]
theorem n_pair_lt {x y k : Nat} (hx : x < 2 ^ k) (hy : y < 2 ^ k) : ((x <<< k) ^^^ y) < 2 ^ (2 * k) := by
  apply Nat.xor_lt_two_pow
  · rw [Nat.shiftLeft_eq, Nat.two_mul, Nat.pow_add]
    exact Nat.mul_lt_mul_of_pos_right hx (Nat.two_pow_pos k)
  · exact Nat.lt_of_lt_of_le hy (Nat.pow_le_pow_right (by decide) (by omega))
theorem n_shl_xor (a b k : Nat) : (a ^^^ b) <<< k = (a <<< k) ^^^ (b <<< k) := by
  apply Nat.eq_of_testBit_eq
  intro i
  simp only [Nat.testBit_shiftLeft, Nat.testBit_xor]
  by_cases h : k ≤ i <;> simp [h]
theorem n_shr_xor (a b k : Nat) : (a ^^^ b) >>> k = (a >>> k) ^^^ (b >>> k) := by
  apply Nat.eq_of_testBit_eq
  intro i
  simp only [Nat.testBit_shiftRight, Nat.testBit_xor]
theorem n_mod_shr (a k : Nat) : ((a % 2 ^ (2 * k)) >>> k) % 2 ^ k = (a >>> k) % 2 ^ k := by
  apply Nat.eq_of_testBit_eq
  intro i
  simp only [Nat.testBit_mod_two_pow, Nat.testBit_shiftRight]
  by_cases h : i < k
  · simp [h, show k + i < 2 * k by omega]
  · simp [h]
theorem n_mod_lo (a k : Nat) : (a % 2 ^ (2 * k)) % 2 ^ k = a % 2 ^ k := by
  apply Nat.mod_mod_of_dvd
  exact Nat.pow_dvd_pow 2 (by omega)
theorem n_L1 : n_L 1 n_1 := by
  refine ⟨fun a b => by simp [n_1, Nat.and_comm], fun a b c => ?_, fun a b c => ?_, fun a b => ?_, fun a b => ?_, fun a => ?_⟩
  · apply Nat.eq_of_testBit_eq
    intro i
    simp only [n_1, Nat.testBit_mod_two_pow, Nat.testBit_and, Nat.testBit_xor]
    cases a.testBit i <;> cases b.testBit i <;> cases c.testBit i <;> simp
  · apply Nat.eq_of_testBit_eq
    intro i
    simp only [n_1, Nat.testBit_mod_two_pow, Nat.testBit_and]
    cases a.testBit i <;> cases b.testBit i <;> cases c.testBit i <;> simp
  · exact Nat.mod_lt _ (by decide)
  · apply Nat.eq_of_testBit_eq
    intro i
    simp only [n_1, Nat.testBit_mod_two_pow, Nat.testBit_and]
    cases a.testBit i <;> cases b.testBit i <;> simp
  · apply Nat.eq_of_testBit_eq
    intro i
    simp only [n_1, Nat.testBit_mod_two_pow, Nat.testBit_and]
    by_cases h : i < 1
    · have : i = 0 := by omega
      subst this
      simp
    · simp [h]
theorem n_Lup {k c : Nat} {g : Nat → Nat → Nat} (hk : 0 < k) (h : n_L k g) : n_L (2 * k) (n_up g k c) := by
  obtain ⟨gc, gl, ga, gb, gm, g1⟩ := h
  have gr : ∀ a b c, g a (b ^^^ c) = g a b ^^^ g a c := fun a b c => by rw [gc, gl, gc b, gc c]
  have gmr : ∀ a b, g a (b % 2 ^ k) = g a b := fun a b => by rw [gc, gm, gc]
  have g0 : ∀ a, g 0 a = 0 := fun a => by
    have := gl 0 0 a
    rw [Nat.xor_self] at this
    rw [this, Nat.xor_self]
  have hP0 : ∀ a b, g a b ^^^ g (g (a >>> k) (b >>> k)) c < 2 ^ k := fun a b => n_xor_lt (gb _ _) (gb _ _)
  have hP1 : ∀ a b, g (a >>> k) (b >>> k) ^^^ (g (a >>> k) b ^^^ g a (b >>> k)) < 2 ^ k := fun a b => n_xor_lt (gb _ _) (n_xor_lt (gb _ _) (gb _ _))
  have hhi : ∀ a b, n_up g k c a b >>> k = g (a >>> k) (b >>> k) ^^^ (g (a >>> k) b ^^^ g a (b >>> k)) := fun a b => n_pair_hi (hP0 a b)
  have hlo : ∀ a b x, g (n_up g k c a b) x = g (g a b ^^^ g (g (a >>> k) (b >>> k)) c) x := fun a b x => by
    rw [← gm, n_up, n_pair_lo (hP0 a b)]
  have hlor : ∀ a b x, g x (n_up g k c a b) = g x (g a b ^^^ g (g (a >>> k) (b >>> k)) c) := fun a b x => by rw [gc, hlo, gc]
  have gac : ∀ a b c, g a (g b c) = g b (g a c) := fun a b c => by rw [← ga, gc a b, ga]
  refine ⟨fun a b => ?_, fun a b d => ?_, fun a b d => ?_, fun a b => n_pair_lt (hP1 a b) (hP0 a b), fun a b => ?_, fun a => ?_⟩
  · simp only [n_up]
    rw [gc (b >>> k) (a >>> k), gc (b >>> k) a, gc b (a >>> k), gc b a, Nat.xor_comm (g a (b >>> k))]
  · simp only [n_up, n_shr_xor, gl, gr, n_shl_xor]
    ac_rfl
  · show n_up g k c (n_up g k c a b) d = n_up g k c a (n_up g k c b d)
    rw [show n_up g k c (n_up g k c a b) d = _ from rfl, n_up, n_up.eq_1 g k c a (n_up g k c b d)]
    simp only [hhi, hlo, hlor]
    congr 1
    · congr 1
      simp only [gl, gr, ga]
      simp only [gc c, gac c, gac d]
      simp only [gc, gac]
      ac_rfl
    · simp only [gl, gr, ga]
      simp only [gc, gac]
      ac_rfl
  · have e1 : ∀ x, g ((a % 2 ^ (2 * k)) >>> k) x = g (a >>> k) x := fun x => by rw [← gm, n_mod_shr, gm]
    have e2 : ∀ x, g (a % 2 ^ (2 * k)) x = g a x := fun x => by rw [← gm, n_mod_lo, gm]
    simp only [n_up, e1, e2]
  · have e1 : (1 : Nat) >>> k = 0 := by
      rw [Nat.shiftRight_eq_div_pow]
      exact Nat.div_eq_of_lt (Nat.one_lt_two_pow (by omega))
    simp only [n_up, e1, g0, g1, Nat.zero_xor, Nat.xor_zero]
    apply Nat.eq_of_testBit_eq
    intro i
    simp only [Nat.testBit_xor, Nat.testBit_shiftLeft, Nat.testBit_mod_two_pow, Nat.testBit_shiftRight]
    by_cases h1 : i < k
    · simp [h1, Nat.not_le.mpr h1, show i < 2 * k by omega]
    · simp only [h1, show k ≤ i by omega, show k + (i - k) = i by omega]
      by_cases h2 : i < 2 * k
      · simp [h2, show i - k < k by omega]
      · simp [h2, show ¬ (i - k < k) by omega]
theorem n_L2 : n_L 2 n_2 := n_Lup (k := 1) (by decide) n_L1
theorem n_L4 : n_L 4 n_4 := n_Lup (k := 2) (by decide) n_L2
theorem n_L8 : n_L 8 n_8 := n_Lup (k := 4) (by decide) n_L4
theorem n_L16 : n_L 16 nm := n_Lup (k := 8) (by decide) n_L8
theorem nm_comm (a b : Nat) : nm a b = nm b a := n_L16.1 a b
theorem nm_xorl (a b c : Nat) : nm (a ^^^ b) c = nm a c ^^^ nm b c := n_L16.2.1 a b c
theorem nm_xorr (a b c : Nat) : nm a (b ^^^ c) = nm a b ^^^ nm a c := by rw [nm_comm, nm_xorl, nm_comm b, nm_comm c]
theorem nm_assoc (a b c : Nat) : nm (nm a b) c = nm a (nm b c) := n_L16.2.2.1 a b c
theorem nm_lt (a b : Nat) : nm a b < 65536 := n_L16.2.2.2.1 a b
theorem nm_mod (a b : Nat) : nm (a % 65536) b = nm a b := n_L16.2.2.2.2.1 a b
theorem nm_one {a : Nat} (h : a < 65536) : nm 1 a = a := by rw [n_L16.2.2.2.2.2 a]; exact Nat.mod_eq_of_lt h
theorem nm_one' {a : Nat} (h : a < 65536) : nm a 1 = a := by rw [nm_comm, nm_one h]
theorem nm_zero (a : Nat) : nm 0 a = 0 := by
  have := nm_xorl 0 0 a
  rw [Nat.xor_self] at this
  rw [this, Nat.xor_self]
theorem nm_zero' (a : Nat) : nm a 0 = 0 := by rw [nm_comm, nm_zero]
/-- powers -/
def np (x : Nat) : Nat → Nat
  | 0 => 1
  | e + 1 => nm (np x e) x
theorem np_lt (x e : Nat) : np x e < 65536 := by
  cases e with
  | zero => exact (by decide : (1 : Nat) < 65536)
  | succ e => exact nm_lt _ _
theorem np_add (x a b : Nat) : np x (a + b) = nm (np x a) (np x b) := by
  induction b with
  | zero => rw [Nat.add_zero, np, nm_one' (np_lt x a)]
  | succ b ih => rw [Nat.add_succ, np, ih, nm_assoc]; rfl
theorem np_1 {x : Nat} (h : x < 65536) : np x 1 = x := by rw [np, np, nm_one h]
theorem np_dbl (x a : Nat) : np x (2 * a) = np (nm x x) a := by
  induction a with
  | zero => rfl
  | succ a ih =>
    rw [show 2 * (a + 1) = 2 * a + 1 + 1 by omega, np, np, ih, np, nm_assoc]
theorem np_sq (x a : Nat) : nm (np x a) (np x a) = np x (2 * a) := by rw [← np_add, Nat.two_mul]
theorem np_odd {x a : Nat} : np x (2 * a + 1) = nm x (np (nm x x) a) := by
  rw [np, np_dbl, nm_comm]
/-- a number's lowest n bits, one bit more -/
theorem n_bit (a n : Nat) : a % 2 ^ (n + 1) = (a % 2 ^ n) ^^^ (if a.testBit n then 2 ^ n else 0) := by
  apply Nat.eq_of_testBit_eq
  intro i
  rw [Nat.testBit_xor, Nat.testBit_mod_two_pow, Nat.testBit_mod_two_pow]
  have e : (if a.testBit n then 2 ^ n else 0).testBit i = (a.testBit n && decide (n = i)) := by
    cases h : a.testBit n
    · simp
    · simp [Nat.testBit_two_pow]
  rw [e]
  by_cases h1 : i < n
  · simp [h1, show i < n + 1 by omega, show ¬ n = i by omega]
  · by_cases h2 : n = i
    · subst h2; simp
    · simp [h1, h2, show ¬ i < n + 1 by omega]
theorem n_bitl (a n b : Nat) : nm (a % 2 ^ (n + 1)) b = nm (a % 2 ^ n) b ^^^ (if a.testBit n then nm (2 ^ n) b else 0) := by
  rw [n_bit, nm_xorl]
  cases a.testBit n <;> simp [nm_zero]
theorem n_bitr (a n b : Nat) : nm b (a % 2 ^ (n + 1)) = nm b (a % 2 ^ n) ^^^ (if a.testBit n then nm b (2 ^ n) else 0) := by
  rw [nm_comm, n_bitl, nm_comm, nm_comm (2 ^ n)]
theorem n_sqx (a b : Nat) : nm (a ^^^ b) (a ^^^ b) = nm a a ^^^ nm b b := by
  rw [nm_xorl, nm_xorr, nm_xorr, nm_comm b a]
  rw [Nat.xor_assoc, ← Nat.xor_assoc (nm a b) (nm a b), Nat.xor_self, Nat.zero_xor]
theorem n_bitq (a n : Nat) : nm (a % 2 ^ (n + 1)) (a % 2 ^ (n + 1)) = nm (a % 2 ^ n) (a % 2 ^ n) ^^^ (if a.testBit n then nm (2 ^ n) (2 ^ n) else 0) := by
  rw [n_bit, n_sqx]
  cases a.testBit n <;> simp [nm_zero]
theorem n_tb (a n : Nat) : (a >>> n &&& 1 = 1) ↔ a.testBit n = true := by
  rw [Nat.testBit, Nat.and_comm]
  have h : 1 &&& a >>> n < 2 := Nat.lt_of_le_of_lt Nat.and_le_left (by decide)
  rcases (show 1 &&& a >>> n = 0 ∨ 1 &&& a >>> n = 1 by omega) with h | h <;> simp [h]
theorem nm_m16 (a b : Nat) : nm (a % 2 ^ 16) b = nm a b := nm_mod a b
theorem nm_m16r (a b : Nat) : nm a (b % 2 ^ 16) = nm a b := by rw [nm_comm, nm_m16, nm_comm]
theorem n_p2 {i : Nat} (h : 1 ≤ i) : 2 * 2 ^ (i - 1) = 2 ^ i := by
  obtain ⟨k, rfl⟩ : ∃ k, i = k + 1 := ⟨i - 1, by omega⟩
  rw [Nat.add_sub_cancel, Nat.pow_succ, Nat.mul_comm]
theorem n_p2s (i : Nat) (h : 1 ≤ i) : 2 ^ i - 2 + 2 ^ i = 2 ^ (i + 1) - 2 := by
  have h1 : 2 ^ i = 2 * 2 ^ (i - 1) := (n_p2 h).symm
  have h2 : 0 < 2 ^ (i - 1) := Nat.two_pow_pos _
  rw [Nat.pow_succ]
  omega
/-- the products of bits stand in the table -/
def n_bp (bp : Nat → Nat) : Prop := ∀ i j : Nat, i < 16 → j < 16 → bp (16 * i + j) = nm (2 ^ i) (2 ^ j)
def n_div (x o : Nat) : Int32 := if o = 0 then -1 else nI (nm x (np o 65534))
/-- the powers of a root of the trace -/
def n_tr (x : Nat) : Nat → Nat
  | 0 => 0
  | k + 1 => n_tr x k ^^^ np x (2 ^ k)
