/-! Squares of nimbers: what the two fields have in common. -/
def q_s (x : Nat) : Nat := nm x x
theorem q_s_lt (x : Nat) : q_s x < 65536 := nm_lt _ _
theorem q_s_x (a b : Nat) : q_s (a ^^^ b) = q_s a ^^^ q_s b := n_sqx a b
theorem q_s0 : q_s 0 = 0 := nm_zero 0
theorem q_s1 : q_s 1 = 1 := nm_one (by decide)
theorem q_s_m (a b : Nat) : q_s (nm a b) = nm (q_s a) (q_s b) := by
  unfold q_s
  rw [nm_assoc a b (nm a b), nm_assoc a a (nm b b), ← nm_assoc b a b, nm_comm b a, nm_assoc a b b]
theorem q_s_p (x e : Nat) : q_s (np x e) = np (q_s x) e := (np_sq x e).trans (np_dbl x e)
theorem q_xc {a b c : Nat} (h : a ^^^ c = b ^^^ c) : a = b := by
  rw [← Nat.xor_zero a, ← Nat.xor_self c, ← Nat.xor_assoc, h, Nat.xor_assoc, Nat.xor_self, Nat.xor_zero]
/-- squared k times -/
def q_i : Nat → Nat → Nat
  | 0, x => x
  | k + 1, x => q_s (q_i k x)
theorem q_i_lt {x : Nat} (hx : x < 65536) : ∀ k, q_i k x < 65536
  | 0 => hx
  | _ + 1 => q_s_lt _
theorem q_i_np {x : Nat} (hx : x < 65536) : ∀ k, q_i k x = np x (2 ^ k)
  | 0 => by rw [Nat.pow_zero, np_1 hx]; rfl
  | k + 1 => by rw [q_i, q_i_np hx k, q_s, np_sq, Nat.pow_succ, Nat.mul_comm]
theorem q_i_x (a b : Nat) : ∀ k, q_i k (a ^^^ b) = q_i k a ^^^ q_i k b
  | 0 => rfl
  | k + 1 => by rw [q_i, q_i_x a b k, q_s_x]; rfl
theorem q_i0 : ∀ k, q_i k 0 = 0
  | 0 => rfl
  | k + 1 => by rw [q_i, q_i0 k, q_s0]
theorem q_fr_b : ((List.range 16).all fun i => decide (q_i 16 (2 ^ i) = 2 ^ i)) = true := by decide +kernel
theorem q_fr_n (x : Nat) : ∀ n, n ≤ 16 → q_i 16 (x % 2 ^ n) = x % 2 ^ n
  | 0, _ => by rw [Nat.pow_zero, Nat.mod_one, q_i0]
  | n + 1, h => by
    rw [n_bit, q_i_x, q_fr_n x n (by omega)]
    congr 1
    split
    · have h1 := List.all_eq_true.mp q_fr_b n (List.mem_range.mpr (by omega))
      rw [decide_eq_true_eq] at h1
      exact h1
    · exact q_i0 16
theorem q_fr {x : Nat} (h : x < 65536) : q_i 16 x = x := by
  have h1 := q_fr_n x 16 (Nat.le_refl _)
  rw [Nat.mod_eq_of_lt (show x < 2 ^ 16 from h)] at h1
  exact h1
theorem q_np16 {x : Nat} (h : x < 65536) : np x 65536 = x := by
  have h1 := (q_i_np h 16).symm.trans (q_fr h)
  rw [show (2 : Nat) ^ 16 = 65536 from by decide] at h1
  exact h1
theorem q_rt {x : Nat} (h : x < 65536) : np (q_s x) 32768 = x := by
  have h1 := np_dbl x 32768
  rw [show 2 * 32768 = 65536 from by decide, q_np16 h] at h1
  exact h1.symm
theorem q_s_rt {x : Nat} (h : x < 65536) : q_s (np x 32768) = x := by rw [q_s_p]; exact q_rt h
theorem q_s_inj {x y : Nat} (hx : x < 65536) (hy : y < 65536) (h : q_s x = q_s y) : x = y := by rw [← q_rt hx, h, q_rt hy]
theorem q_s_z {x : Nat} (hx : x < 65536) : (q_s x = 0) = (x = 0) := by
  apply propext
  constructor
  · intro h
    exact q_s_inj hx (by decide) (h.trans q_s0.symm)
  · intro h
    rw [h, q_s0]
/-- y y + y -/
def q_l (y : Nat) : Nat := q_s y ^^^ y
theorem q_l_x (a b : Nat) : q_l (a ^^^ b) = q_l a ^^^ q_l b := by
  unfold q_l
  rw [q_s_x]
  ac_rfl
theorem q_l0 : q_l 0 = 0 := by rw [q_l, q_s0, Nat.xor_self]
theorem q_l1 : q_l 1 = 0 := by rw [q_l, q_s1, Nat.xor_self]
theorem q_l_s (y : Nat) : q_l (q_s y) = q_s (q_l y) := by unfold q_l; rw [q_s_x]
theorem q_phi (k : Nat) : q_l (2 ^ k) = s_phi k := by
  unfold s_phi q_l q_s
  rw [Nat.one_shiftLeft]
theorem q_phi_lt {k : Nat} (h0 : 0 < k) (hk : k < 16) : s_phi k < 2 ^ k := by
  refine Nat.lt_pow_two_of_testBit _ (fun b hb => ?_)
  by_cases h : b < 16
  · exact Bool.eq_false_iff.mpr ((s_phi_is h0 hk).2.1 b h hb)
  · exact Nat.testBit_lt_two_pow (Nat.lt_of_lt_of_le (s_phi_lt hk) (show 2 ^ 16 ≤ 2 ^ b from Nat.pow_le_pow_right (by decide) (by omega)))
theorem q_l_if {c : Prop} [Decidable c] (n : Nat) : q_l (if c then 2 ^ n else 0) = if c then s_phi n else 0 := by
  split
  · exact q_phi n
  · exact q_l0
theorem q_l_lt (y : Nat) : ∀ n, n < 16 → q_l (y % 2 ^ (n + 1)) < 2 ^ n
  | 0, _ => by
    have h : y % 2 ^ (0 + 1) = 0 ∨ y % 2 ^ (0 + 1) = 1 := by
      have : (2 : Nat) ^ (0 + 1) = 2 := rfl
      rw [this]
      omega
    rcases h with h | h
    · rw [h, q_l0]; decide
    · rw [h, q_l1]; decide
  | n + 1, h => by
    rw [n_bit, q_l_x, q_l_if]
    apply Nat.xor_lt_two_pow
    · exact Nat.lt_trans (q_l_lt y n (by omega)) (Nat.pow_lt_pow_right (by decide) (by omega))
    · split
      · exact q_phi_lt (by omega) h
      · exact Nat.two_pow_pos _
theorem q_l_bit (y : Nat) {n : Nat} (hn : n + 1 < 16) : (q_l (y % 2 ^ (n + 2))).testBit n = y.testBit (n + 1) := by
  rw [n_bit, q_l_x, q_l_if, Nat.testBit_xor, Nat.testBit_lt_two_pow (q_l_lt y n (by omega)), Bool.false_xor]
  cases h : y.testBit (n + 1)
  · simp
  · simp only [if_true]
    exact (s_phi_is (k := n + 1) (by omega) hn).1
theorem q_ker_n {y : Nat} (hy : y < 65536) (h : q_l y = 0) : ∀ n, n ≤ 15 → y < 2 ^ (16 - n)
  | 0, _ => hy
  | n + 1, hn => by
    have h1 := q_ker_n hy h n (by omega)
    obtain ⟨k, hk⟩ : ∃ k, 16 - n = k + 2 := ⟨14 - n, by omega⟩
    rw [hk] at h1
    have h2 := q_l_bit y (n := k) (by omega)
    rw [Nat.mod_eq_of_lt h1, h, Nat.zero_testBit] at h2
    rw [show 16 - (n + 1) = k + 1 by omega]
    refine Nat.lt_pow_two_of_testBit _ (fun b hb => ?_)
    by_cases e : b = k + 1
    · rw [e]; exact h2.symm
    · exact Nat.testBit_lt_two_pow (Nat.lt_of_lt_of_le h1 (Nat.pow_le_pow_right (by decide) (by omega)))
theorem q_ker {y : Nat} (hy : y < 65536) (h : q_l y = 0) : y < 2 := q_ker_n hy h 15 (Nat.le_refl _)
/-- inverses -/
theorem q_one {x : Nat} (h : x < 65536) (h0 : x ≠ 0) : np x 65535 = 1 := by
  have e1 : np x 65535 = nm (np x 65534) x := by
    have := np_add x 65534 1
    rw [np_1 h, show 65534 + 1 = 65535 from by decide] at this
    exact this
  have e2 : nm (np x 65535) x = x := by
    have := np_add x 65535 1
    rw [np_1 h, show 65535 + 1 = 65536 from by decide, q_np16 h] at this
    exact this.symm
  have e3 : q_s (np x 65535) = np x 65535 := by
    have h1 := np_add x 65536 65534
    rw [q_np16 h, nm_comm, ← e1, show 65536 + 65534 = 2 * 65535 from by decide, ← np_sq] at h1
    exact h1
  have e4 : q_l (np x 65535) = 0 := by rw [q_l, e3, Nat.xor_self]
  have e5 := q_ker (np_lt _ _) e4
  rcases (show np x 65535 = 0 ∨ np x 65535 = 1 by omega) with e | e
  · rw [e, nm_zero] at e2
    exact absurd e2.symm h0
  · exact e
theorem q_inv {x : Nat} (h : x < 65536) (h0 : x ≠ 0) : nm x (np x 65534) = 1 := by
  have := np_add x 65534 1
  rw [np_1 h, show 65534 + 1 = 65535 from by decide, q_one h h0, nm_comm] at this
  exact this.symm
/-- traces -/
theorem q_tr_k (x : Nat) : ∀ k, n_tr (q_s x) k ^^^ np x 1 = n_tr x k ^^^ np x (2 ^ k)
  | 0 => rfl
  | k + 1 => by
    rw [n_tr, n_tr, ← q_tr_k x k, show np (q_s x) (2 ^ k) = np x (2 ^ (k + 1)) from by rw [q_s, ← np_dbl, Nat.pow_succ, Nat.mul_comm]]
    ac_rfl
theorem q_tr {x : Nat} (h : x < 65536) : n_tr (q_s x) 16 = n_tr x 16 := by
  have h1 := q_tr_k x 16
  rw [show (2 : Nat) ^ 16 = 65536 from by decide, q_np16 h, np_1 h] at h1
  exact q_xc h1
theorem q_np_x {a b : Nat} (ha : a < 65536) (hb : b < 65536) (k : Nat) : np (a ^^^ b) (2 ^ k) = np a (2 ^ k) ^^^ np b (2 ^ k) := by
  rw [← q_i_np ha, ← q_i_np hb, ← q_i_np (n_x16 ha hb), q_i_x]
theorem q_tr_x {a b : Nat} (ha : a < 65536) (hb : b < 65536) : ∀ k, n_tr (a ^^^ b) k = n_tr a k ^^^ n_tr b k
  | 0 => by rw [n_tr, n_tr, n_tr, Nat.xor_self]
  | k + 1 => by
    rw [n_tr, n_tr, n_tr, q_tr_x ha hb k, q_np_x ha hb]
    ac_rfl
theorem q_tr_lt {x : Nat} : ∀ k, n_tr x k < 65536
  | 0 => by rw [n_tr]; decide
  | k + 1 => by rw [n_tr]; exact n_x16 (q_tr_lt k) (np_lt _ _)
theorem q_tr_l {y : Nat} (hy : y < 65536) : n_tr (q_l y) 16 = 0 := by
  unfold q_l
  rw [q_tr_x (q_s_lt y) hy, q_tr hy, Nat.xor_self]
def q_t (x : Nat) : Nat → Nat
  | 0 => 0
  | k + 1 => q_t x k ^^^ q_i k x
theorem q_t_eq {x : Nat} (hx : x < 65536) : ∀ k, q_t x k = n_tr x k
  | 0 => rfl
  | k + 1 => by rw [q_t, n_tr, q_t_eq hx k, q_i_np hx]
theorem q_t15 : decide (q_t 32768 16 = 0) = false := by decide +kernel
theorem q_tr15 : n_tr 32768 16 ≠ 0 := by
  rw [← q_t_eq (by decide)]
  exact of_decide_eq_false q_t15
theorem q_t0 : decide (q_t 0 16 = 0) = true := by decide +kernel
theorem q_tr0 : n_tr 0 16 = 0 := by
  rw [← q_t_eq (by decide)]
  exact of_decide_eq_true q_t0
/-- equations -/
theorem q_ls : ∀ (b sol re : Nat), b ≤ 15 → re < 65536 → sol < 65536 → (∀ i, b ≤ i → i < 15 → re.testBit i = false) →
    (n_ls b sol re).2 ^^^ q_l (n_ls b sol re).1 = re ^^^ q_l sol ∧ (n_ls b sol re).2 < 65536 ∧ (n_ls b sol re).1 < 65536 ∧ ∀ i, i < 15 → (n_ls b sol re).2.testBit i = false
  | 0, sol, re, _, h1, h2, h3 => ⟨rfl, h1, h2, fun i hi => h3 i (Nat.zero_le _) hi⟩
  | b + 1, sol, re, hb, h1, h2, h3 => by
    rw [n_ls]
    split
    · rename_i hc
      have hp := s_phi_is (k := b + 1) (by omega) (by omega)
      have e1 : nm (1 <<< (b + 1)) (1 <<< (b + 1)) ^^^ 1 <<< (b + 1) = s_phi (b + 1) := rfl
      rw [e1]
      have ih := q_ls b (sol ^^^ 1 <<< (b + 1)) (re ^^^ s_phi (b + 1)) (by omega) (n_x16 h1 (s_phi_lt (by omega))) (n_x16 h2 (n_sh1 (by omega))) (fun i hi hi2 => by
        rw [Nat.testBit_xor]
        by_cases e : i = b
        · subst e
          rw [hc, show (s_phi (i + 1)).testBit i = true from hp.1]
          rfl
        · rw [h3 i (by omega) hi2, Bool.eq_false_iff.mpr (hp.2.1 i (by omega) (by omega))]
          rfl)
      refine ⟨?_, ih.2⟩
      rw [ih.1, q_l_x, Nat.one_shiftLeft, q_phi]
      rw [show re ^^^ s_phi (b + 1) ^^^ (q_l sol ^^^ s_phi (b + 1)) = re ^^^ q_l sol ^^^ (s_phi (b + 1) ^^^ s_phi (b + 1)) from by ac_rfl, Nat.xor_self, Nat.xor_zero]
    · rename_i hc
      exact q_ls b sol re (by omega) h1 h2 (fun i hi hi2 => by
        by_cases e : i = b
        · subst e
          exact Bool.eq_false_iff.mpr hc
        · exact h3 i (by omega) hi2)
theorem q_hi {y : Nat} (hy : y < 65536) (h : ∀ i, i < 15 → y.testBit i = false) : y = 0 ∨ y = 32768 := by
  have h1 : y % 2 ^ 15 = 0 := by
    apply Nat.eq_of_testBit_eq
    intro i
    rw [Nat.testBit_mod_two_pow, Nat.zero_testBit]
    by_cases e : i < 15
    · rw [h i e, Bool.and_false]
    · simp [e]
  have h2 : (2 : Nat) ^ 15 = 32768 := by decide
  rw [h2] at h1
  omega
theorem q_sol {x : Nat} (hx : x < 65536) : (n_tr x 16 = 0 ∧ ∃ y, y < 65536 ∧ n_sol x = nI y ∧ q_l y = x) ∨ (n_tr x 16 ≠ 0 ∧ n_sol x = -1) := by
  obtain ⟨h1, h2, h3, h4⟩ := q_ls 15 0 x (Nat.le_refl _) hx (by decide) (fun i h h' => by omega)
  rw [q_l0, Nat.xor_zero] at h1
  unfold n_sol
  generalize n_ls 15 0 x = r at h1 h2 h3 h4 ⊢
  have h5 : n_tr x 16 = n_tr r.2 16 := by
    have hl : q_l r.1 < 65536 := n_x16 (q_s_lt _) h3
    rw [← h1, q_tr_x h2 hl, q_tr_l h3, Nat.xor_zero]
  rcases q_hi h2 h4 with e | e
  · refine Or.inl ⟨by rw [h5, e, q_tr0], r.1, h3, by rw [if_pos e], ?_⟩
    rw [e, Nat.zero_xor] at h1
    exact h1
  · refine Or.inr ⟨by rw [h5, e]; exact q_tr15, by rw [if_neg (by omega)]⟩
theorem q_sol_s {x : Nat} (hx : x < 65536) : (n_sol x = -1 ∧ n_sol (q_s x) = -1) ∨ ∃ y z, y < 65536 ∧ z < 65536 ∧ n_sol x = nI y ∧ n_sol (q_s x) = nI z ∧ z ||| 1 = q_s y ||| 1 := by
  rcases q_sol hx with ⟨h1, y, hy, e1, e2⟩ | ⟨h1, e1⟩
  · rcases q_sol (q_s_lt x) with ⟨h2, z, hz, e3, e4⟩ | ⟨h2, e3⟩
    · refine Or.inr ⟨y, z, hy, hz, e1, e3, ?_⟩
      have h5 : q_l (z ^^^ q_s y) = 0 := by rw [q_l_x, e4, q_l_s, e2, Nat.xor_self]
      have h6 := q_ker (n_x16 hz (q_s_lt y)) h5
      have h7 : z = (z ^^^ q_s y) ^^^ q_s y := by rw [Nat.xor_assoc, Nat.xor_self, Nat.xor_zero]
      rcases (show z ^^^ q_s y = 0 ∨ z ^^^ q_s y = 1 by omega) with e | e
      · rw [e, Nat.zero_xor] at h7
        rw [h7]
      · rw [e] at h7
        rw [h7]
        apply Nat.eq_of_testBit_eq
        intro i
        simp only [Nat.testBit_or, Nat.testBit_xor]
        cases Nat.testBit 1 i <;> simp
    · exact absurd ((q_tr hx).trans h1) h2
  · rcases q_sol (q_s_lt x) with ⟨h2, -⟩ | ⟨h2, e3⟩
    · exact absurd ((q_tr hx).symm.trans h2) h1
    · exact Or.inl ⟨e1, e3⟩
/-- orders -/
theorem q_p1 {x : Nat} (e : Nat) : (np (q_s x) e = 1) = (np x e = 1) := by
  rw [← q_s_p]
  apply propext
  constructor
  · intro h
    exact q_s_inj (np_lt _ _) (by decide) (h.trans q_s1.symm)
  · intro h
    rw [h, q_s1]
theorem q_ob (od pr x : Nat) : m_obP od pr (q_s x) = m_obP od pr x := by
  unfold m_obP
  simp only [q_p1]
theorem q_ord {x : Nat} (hx : x < 65536) : n_ord (q_s x) = n_ord x := by
  unfold n_ord
  simp only [q_s_z hx, q_ob]
theorem q_ob2 (od pr x : Nat) : m_obP od pr x = od / pr ∨ m_obP od pr x = od := by
  unfold m_obP
  split
  · exact Or.inl rfl
  · exact Or.inr rfl
def q_P (k : Nat) : Prop := 0 < k ∧ k ≤ 65535 ∧ 65535 % k = 0
theorem q_P4 {x : Nat} (od : Nat) (h1 : q_P (od / 257)) (h2 : q_P od) : q_P (m_obP od 257 x) := by
  rcases q_ob2 od 257 x with h | h <;> rw [h] <;> assumption
theorem q_P3 {x : Nat} (od : Nat) (h1 : q_P (od / 17 / 257)) (h2 : q_P (od / 17)) (h3 : q_P (od / 257)) (h4 : q_P od) : q_P (m_obP (m_obP od 17 x) 257 x) := by
  rcases q_ob2 od 17 x with h | h <;> rw [h] <;> apply q_P4 <;> assumption
theorem q_P2 {x : Nat} (od : Nat) (h1 : q_P (od / 5 / 17 / 257)) (h2 : q_P (od / 5 / 17)) (h3 : q_P (od / 5 / 257)) (h4 : q_P (od / 5)) (h5 : q_P (od / 17 / 257)) (h6 : q_P (od / 17)) (h7 : q_P (od / 257)) (h8 : q_P od) : q_P (m_obP (m_obP (m_obP od 5 x) 17 x) 257 x) := by
  rcases q_ob2 od 5 x with h | h <;> rw [h] <;> apply q_P3 <;> assumption
theorem q_P1 (x : Nat) : q_P (m_obP (m_obP (m_obP (m_obP 65535 3 x) 5 x) 17 x) 257 x) := by
  rcases q_ob2 65535 3 x with h | h <;> rw [h] <;> apply q_P2 <;> unfold q_P <;> decide
theorem q_ord_d {x : Nat} (h0 : x ≠ 0) : ∃ k, n_ord x = nI k ∧ 0 < k ∧ k ≤ 65535 ∧ 65535 % k = 0 := by
  unfold n_ord
  rw [if_neg h0]
  exact ⟨_, rfl, q_P1 x⟩
/-- fields -/
theorem n_up_lo {k c : Nat} {g : Nat → Nat → Nat} (h : n_L k g) {a b : Nat} (ha : a < 2 ^ k) (hb : b < 2 ^ k) : n_up g k c a b = g a b := by
  have g0 := n_g0 h
  have g0' : ∀ x, g x 0 = 0 := fun x => by rw [h.1, g0]
  have ea : a >>> k = 0 := by rw [Nat.shiftRight_eq_div_pow, Nat.div_eq_of_lt ha]
  have eb : b >>> k = 0 := by rw [Nat.shiftRight_eq_div_pow, Nat.div_eq_of_lt hb]
  simp [n_up, ea, eb, g0, g0']
def q_h (h : Nat) : Prop := h = 2 ∨ h = 4 ∨ h = 16 ∨ h = 256
theorem q_s_sub {h x : Nat} (q : q_h h) (hx : x < h) : q_s x < h := by
  have e8 : ∀ {x : Nat}, x < 256 → q_s x = n_8 x x := fun {x} hx => n_up_lo n_L8 hx hx
  have e4 : ∀ {x : Nat}, x < 16 → q_s x = n_4 x x := fun {x} hx => (e8 (by omega)).trans (n_up_lo n_L4 hx hx)
  have e2 : ∀ {x : Nat}, x < 4 → q_s x = n_2 x x := fun {x} hx => (e4 (by omega)).trans (n_up_lo n_L2 hx hx)
  have e1 : ∀ {x : Nat}, x < 2 → q_s x = n_1 x x := fun {x} hx => (e2 (by omega)).trans (n_up_lo n_L1 hx hx)
  rcases q with rfl | rfl | rfl | rfl
  · rw [e1 hx]; exact n_L1.2.2.2.1 x x
  · rw [e2 hx]; exact n_L2.2.2.2.1 x x
  · rw [e4 hx]; exact n_L4.2.2.2.1 x x
  · rw [e8 hx]; exact n_L8.2.2.2.1 x x
theorem q_i_sub {h x : Nat} (q : q_h h) (hx : x < h) : ∀ k, q_i k x < h
  | 0 => hx
  | k + 1 => q_s_sub q (q_i_sub q hx k)
theorem q_sub {h x : Nat} (q : q_h h) (hx : x < 65536) : (q_s x < h) = (x < h) := by
  apply propext
  constructor
  · intro h1
    have h2 := q_i_sub q h1 15
    rw [q_i_np (q_s_lt x), show (2 : Nat) ^ 15 = 32768 from by decide, q_rt hx] at h2
    exact h2
  · exact q_s_sub q
theorem q_fld {x : Nat} (hx : x < 65536) : n_fld (q_s x) = n_fld x := by
  unfold n_fld
  simp only [q_sub (h := 2) (Or.inl rfl) hx, q_sub (h := 4) (Or.inr (Or.inl rfl)) hx, q_sub (h := 16) (Or.inr (Or.inr (Or.inl rfl))) hx, q_sub (h := 256) (Or.inr (Or.inr (Or.inr rfl))) hx]
/-- sums -/
def q_R (f g : Nat → Nat) : Prop := ∀ k, k < 8 → g (7 - k) = q_s (f k)
theorem q_xr {f g : Nat → Nat} (h : q_R f g) : m_xr g 8 = q_s (m_xr f 8) := by
  have h0 : g 7 = q_s (f 0) := h 0 (by decide)
  have h1 : g 6 = q_s (f 1) := h 1 (by decide)
  have h2 : g 5 = q_s (f 2) := h 2 (by decide)
  have h3 : g 4 = q_s (f 3) := h 3 (by decide)
  have h4 : g 3 = q_s (f 4) := h 4 (by decide)
  have h5 : g 2 = q_s (f 5) := h 5 (by decide)
  have h6 : g 1 = q_s (f 6) := h 6 (by decide)
  have h7 : g 0 = q_s (f 7) := h 7 (by decide)
  simp only [m_xr, Nat.zero_xor, q_s_x, h0, h1, h2, h3, h4, h5, h6, h7]
  ac_rfl
theorem q_R_up {f g : Nat → Nat} {k v w : Nat} (h : q_R f g) (hk : k < 8) (hw : w = q_s v) : q_R (m_up f k v) (m_up g (7 - k) w) := fun i hi => by
  by_cases e : i = k
  · subst e
    rw [m_ups, m_ups, hw]
  · rw [m_upn f v e, m_upn g w (by omega)]
    exact h i hi
theorem q_xr_n {f : Nat → Nat} {k v : Nat} : ∀ n, m_xr (m_up f k v) n = if k < n then m_xr f n ^^^ f k ^^^ v else m_xr f n
  | 0 => by rw [if_neg (by omega)]; rfl
  | n + 1 => by
    rw [m_xr, q_xr_n n, m_xr]
    by_cases e : n = k
    · subst e
      rw [if_neg (by omega), if_pos (by omega), m_ups]
      rw [Nat.xor_assoc (m_xr f n), Nat.xor_self, Nat.xor_zero]
    · rw [m_upn f v e]
      by_cases h : k < n
      · rw [if_pos h, if_pos (by omega)]
        ac_rfl
      · rw [if_neg h, if_neg (by omega)]
theorem q_xr_up {f : Nat → Nat} {k v : Nat} (hk : k < 8) : m_xr (m_up f k v) 8 = m_xr f 8 ^^^ f k ^^^ v := by rw [q_xr_n, if_pos hk]
theorem q_up_at (f : Nat → Nat) (k j : Nat) : m_up f k (f j) j = f j := by
  by_cases e : j = k
  · subst e; rw [m_ups]
  · rw [m_upn f _ e]
theorem q_xr_ex {f : Nat → Nat} {k j : Nat} (hk : k < 8) (hj : j < 8) : m_xr (m_up (m_up f k (f j)) j (f k)) 8 = m_xr f 8 := by
  rw [q_xr_up hj, q_xr_up hk, q_up_at]
  rw [show m_xr f 8 ^^^ f k ^^^ f j ^^^ f j ^^^ f k = m_xr f 8 ^^^ (f k ^^^ f k) ^^^ (f j ^^^ f j) from by ac_rfl, Nat.xor_self, Nat.xor_self, Nat.xor_zero, Nat.xor_zero]
/-- a register to lessen -/
theorem q_less {a s b : Nat} (hs : s < 2 ^ (b + 1)) (h1 : s.testBit b = true) (h2 : a.testBit b = true) : a ^^^ s < a := by
  have e1 : (a ^^^ s) / 2 ^ (b + 1) = a / 2 ^ (b + 1) := by
    rw [← Nat.shiftRight_eq_div_pow, ← Nat.shiftRight_eq_div_pow, n_shr_xor, Nat.shiftRight_eq_div_pow s, Nat.div_eq_of_lt hs, Nat.xor_zero]
  have e2 : (a ^^^ s) % 2 ^ (b + 1) < 2 ^ b := by
    refine Nat.lt_pow_two_of_testBit _ (fun i hi => ?_)
    rw [Nat.testBit_mod_two_pow]
    by_cases e : i = b
    · subst e
      rw [Nat.testBit_xor, h1, h2]
      simp
    · simp [show ¬ i < b + 1 by omega]
  have e3 : ¬ a % 2 ^ (b + 1) < 2 ^ b := fun h => by
    have h3 := Nat.testBit_lt_two_pow h
    rw [Nat.testBit_mod_two_pow, h2] at h3
    simp at h3
  have m1 := Nat.div_add_mod (a ^^^ s) (2 ^ (b + 1))
  have m2 := Nat.div_add_mod a (2 ^ (b + 1))
  rw [e1] at m1
  omega
theorem q_xr_b {f : Nat → Nat} {b : Nat} : ∀ n, (∀ i, i < n → (f i).testBit b = false) → (m_xr f n).testBit b = false
  | 0, _ => Nat.zero_testBit b
  | n + 1, h => by rw [m_xr, Nat.testBit_xor, q_xr_b n (fun i hi => h i (by omega)), h n (by omega)]; rfl
theorem q_les_n {f : Nat → Nat} {sm : Nat} : ∀ n k, (m_les f sm n k = -1 ∧ ∀ i, k ≤ i → i < k + n → ¬ f i ^^^ sm < f i) ∨ ∃ i, i < k + n ∧ m_les f sm n k = nI i ∧ f i ^^^ sm < f i
  | 0, k => Or.inl ⟨rfl, fun i h1 h2 => by omega⟩
  | n + 1, k => by
    rw [m_les]
    by_cases h : f k ^^^ sm < f k
    · exact Or.inr ⟨k, by omega, if_pos h, h⟩
    · rw [if_neg h]
      rcases q_les_n n (k + 1) with ⟨h1, h2⟩ | ⟨i, h1, h2, h3⟩
      · refine Or.inl ⟨h1, fun i hi hi2 => ?_⟩
        by_cases e : i = k
        · subst e; exact h
        · exact h2 i (by omega) (by omega)
      · exact Or.inr ⟨i, by omega, h2, h3⟩
theorem q_les (f : Nat → Nat) : (m_xr f 8 = 0 ∧ m_les f (m_xr f 8) 8 0 = -1) ∨ (m_xr f 8 ≠ 0 ∧ ∃ i, i < 8 ∧ m_les f (m_xr f 8) 8 0 = nI i ∧ f i ^^^ m_xr f 8 < f i) := by
  rcases q_les_n (f := f) (sm := m_xr f 8) 8 0 with ⟨h1, h2⟩ | ⟨i, h1, h2, h3⟩
  · by_cases h : m_xr f 8 = 0
    · exact Or.inl ⟨h, h1⟩
    · exfalso
      have hb := Nat.testBit_log2 h
      have hl := Nat.lt_log2_self (n := m_xr f 8)
      have h4 : (m_xr f 8).testBit (m_xr f 8).log2 = false := q_xr_b 8 (fun i hi => by
        cases e : (f i).testBit (m_xr f 8).log2
        · rfl
        · exact absurd (q_less hl hb e) (h2 i (Nat.zero_le _) (by omega)))
      rw [hb] at h4
      cases h4
  · refine Or.inr ⟨fun h => ?_, i, by omega, h2, h3⟩
    rw [h, Nat.xor_zero] at h3
    omega
theorem q_les2 {f g : Nat → Nat} (hf : ∀ j, f j < 65536) (h : q_R f g) : (m_les f (m_xr f 8) 8 0 = -1 ∧ m_les g (m_xr g 8) 8 0 = -1) ∨ ∃ i i2, i < 8 ∧ i2 < 8 ∧ m_les f (m_xr f 8) 8 0 = nI i ∧ m_les g (m_xr g 8) 8 0 = nI i2 := by
  have e := q_xr h
  rcases q_les f with ⟨h1, h2⟩ | ⟨h1, i, hi, h2, -⟩
  · rcases q_les g with ⟨h3, h4⟩ | ⟨h3, -⟩
    · exact Or.inl ⟨h2, h4⟩
    · rw [e, h1, q_s0] at h3
      exact absurd rfl h3
  · rcases q_les g with ⟨h3, -⟩ | ⟨h3, i2, hi2, h4, -⟩
    · rw [e, q_s_z (m_xr_lt hf 8)] at h3
      exact absurd h3 h1
    · exact Or.inr ⟨i, i2, hi, hi2, h2, h4⟩
theorem l_ne0 {k : Nat} (h0 : 0 < k) (h : k < 2 ^ 31) : ¬ nI k = 0 := fun q => by
  have := (nI_eq (a := k) (b := 0) h (by decide)).mp q
  omega
theorem l_tn {a : Nat} (h : a < 2 ^ 31) : (nI a).toBitVec.toNat = a := by
  simp [nI]
  omega
theorem l_andm (x : Int32) {m : Nat} (hm : m < 2 ^ 31) : ∃ q, q ≤ m ∧ x &&& nI m = nI q := by
  refine ⟨x.toBitVec.toNat &&& m, Nat.and_le_right, ?_⟩
  apply Int32.toBitVec_inj.mp
  apply BitVec.eq_of_toNat_eq
  show (x.toBitVec &&& (nI m).toBitVec).toNat = _
  rw [BitVec.toNat_and, l_tn hm, l_tn (Nat.lt_of_le_of_lt Nat.and_le_right hm)]
