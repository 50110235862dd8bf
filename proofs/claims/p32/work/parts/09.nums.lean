/-! Numbers: ints as Nat, bits, rows of Nat. (b_ext .. nx_xor, s_l began as rows of kit/laws/BITS.to-paste.) -/
def bt (x : Int32) (i : Nat) : Bool := x.toBitVec.getLsbD i
theorem b_ext {x y : Int32} (h : ∀ i, i < 32 → bt x i = bt y i) : x = y := Int32.toBitVec_inj.mp (BitVec.eq_of_getLsbD_eq (fun i hi => h i hi))
theorem b_or (x y : Int32) (i : Nat) : bt (x ||| y) i = (bt x i || bt y i) := by unfold bt; rw [Int32.toBitVec_or, BitVec.getLsbD_or]
theorem b_and (x y : Int32) (i : Nat) : bt (x &&& y) i = (bt x i && bt y i) := by unfold bt; rw [Int32.toBitVec_and, BitVec.getLsbD_and]
theorem s_l : ∀ n, n < 32 → ((nI n &&& 31).toBitVec.smod 32).toNat = n := by decide +kernel
theorem nx_and (a b : Nat) : nI a &&& nI b = nI (a &&& b) := by
  apply Int32.toBitVec_inj.1
  show BitVec.ofNat 32 a &&& BitVec.ofNat 32 b = BitVec.ofNat 32 (a &&& b)
  apply BitVec.eq_of_getLsbD_eq
  intro i hi
  simp [hi]
theorem nx_xor (a b : Nat) : nI a ^^^ nI b = nI (a ^^^ b) := by
  apply Int32.toBitVec_inj.1
  show BitVec.ofNat 32 a ^^^ BitVec.ofNat 32 b = BitVec.ofNat 32 (a ^^^ b)
  apply BitVec.eq_of_getLsbD_eq
  intro i hi
  simp [hi]
theorem nx_or (a b : Nat) : nI a ||| nI b = nI (a ||| b) := by
  apply Int32.toBitVec_inj.1
  show BitVec.ofNat 32 a ||| BitVec.ofNat 32 b = BitVec.ofNat 32 (a ||| b)
  apply BitVec.eq_of_getLsbD_eq
  intro i hi
  simp [hi]
theorem m_shl (a k : Nat) (hk : k < 32) : nI a <<< (nI k &&& 31) = nI (a <<< k) := by
  have h := pk_shl (nI a) (nI k &&& 31) k (s_l k hk)
  apply Int32.toBitVec_inj.mp
  apply BitVec.eq_of_toNat_eq
  rw [h]
  simp [nI, Nat.shiftLeft_eq, Nat.mod_mul_mod]
theorem m_shr (a k : Nat) (ha : a < 2 ^ 31) (hk : k < 32) : nI a >>> (nI k &&& 31) = nI (a >>> k) := by
  rw [pk_shrN ha (nI k &&& 31) k (s_l k hk), Nat.shiftRight_eq_div_pow]
theorem m_lt {a b : Nat} (ha : a < 2 ^ 31) (hb : b < 2 ^ 31) : (nI a < nI b) = (a < b) := propext (nI_ltI ha hb)
theorem m_le {a b : Nat} (ha : a < 2 ^ 31) (hb : b < 2 ^ 31) : (nI a ≤ nI b) = (a ≤ b) := propext (nI_leI ha hb)
theorem m_eq {a b : Nat} (ha : a < 2 ^ 31) (hb : b < 2 ^ 31) : (nI a = nI b) = (a = b) := propext (nI_eq ha hb)
/-- rows of numbers -/
def m_nf (g : Nat → Nat) : Nat → Int32 := fun j => nI (g j)
def m_up (g : Nat → Nat) (n v : Nat) : Nat → Nat := fun j => if j = n then v else g j
theorem m_upd {g : Nat → Nat} {n v : Nat} (h : n < 2 ^ 31) : upd (m_nf g) (nI n).toNatClampNeg (nI v) = m_nf (m_up g n v) := by
  rw [nI_clamp h]
  funext j
  simp only [upd, m_nf, m_up]
  split <;> rfl
theorem m_ldn {g : Nat → Nat} {n : Nat} (h : n < 2 ^ 31) : m_nf g (nI n).toNatClampNeg = nI (g n) := by rw [nI_clamp h]; rfl
theorem m_ld {f : Nat → Int32} {n : Nat} (h : n < 2 ^ 31) : f (nI n).toNatClampNeg = f n := by rw [nI_clamp h]
theorem m_in {n N : Nat} (h : n < N) (hN : N < 2 ^ 31) : vp_in (nI n) N := vp_in_nI h hN
theorem m_ups (g : Nat → Nat) (n v : Nat) : m_up g n v n = v := by simp [m_up]
theorem m_upn (g : Nat → Nat) {n j : Nat} (v : Nat) (h : j ≠ n) : m_up g n v j = g j := by simp [m_up, h]
theorem m_dec {k : Nat} (h : 0 < k) : nI k + Int32.ofInt (-1) = nI (k - 1) := sb_m1 h
theorem m_top {p : Program} {l : Launch} {e : Env} {R : Room} {s : State} {m : MethodId} {args : Array Value} {below : List Frame} {meth : Method} {c : Code} {H : Heap} {locs : List Loc} {cells slots : Nat} {Q : State → Prop} {pc : Nat} {ls : Array Slot} {rest : List Value} {v v' : Value} (h : v = v')
    (k : W p l e R s m args below meth c H locs cells slots Q (F0 m pc ls (v' :: rest))) : W p l e R s m args below meth c H locs cells slots Q (F0 m pc ls (v :: rest)) := by
  subst h
  exact k
/-- the first i of g, f behind -/
def m_mix (f g : Nat → Nat) (i : Nat) : Nat → Nat := fun j => if j < i then g j else f j
theorem m_mix0 (f g : Nat → Nat) : f = m_mix f g 0 := by funext j; simp [m_mix]
theorem m_mixS (f g : Nat → Nat) (i : Nat) : m_up (m_mix f g i) i (g i) = m_mix f g (i + 1) := by
  funext j
  simp only [m_up, m_mix]
  by_cases h : j = i
  · subst h; simp
  · rw [if_neg h]
    by_cases h2 : j < i
    · rw [if_pos h2, if_pos (by omega)]
    · rw [if_neg h2, if_neg (by omega)]
/-- nothing from n on -/
def m_z (n : Nat) (f : Nat → Nat) : Prop := ∀ j, n ≤ j → f j = 0
theorem m_mixE {f g : Nat → Nat} {n : Nat} (hf : m_z n f) (hg : m_z n g) : m_mix f g n = g := by
  funext j
  simp only [m_mix]
  by_cases h : j < n
  · rw [if_pos h]
  · rw [if_neg h, hf j (by omega), hg j (by omega)]
theorem m_zup {f : Nat → Nat} {n k v : Nat} (hf : m_z n f) (hk : k < n) : m_z n (m_up f k v) := fun j hj => by
  rw [m_upn f v (by omega)]; exact hf j hj
/-- the sum of the first k, without carries -/
def m_xr (g : Nat → Nat) : Nat → Nat
  | 0 => 0
  | k + 1 => m_xr g k ^^^ g k
def m_k4 (a b c d : Nat) : Nat → Option Nat := fun j => if j = 0 then some a else if j = 1 then some b else if j = 2 then some c else if j = 3 then some d else none
theorem m_min (x y : Nat) (hx : x < 2 ^ 31) (hy : y < 2 ^ 31) : (if nI y < nI x then nI y else nI x) = nI (min x y) := by
  by_cases h : y < x
  · rw [if_pos ((nI_ltI hy hx).mpr h), Nat.min_eq_right (by omega)]
  · rw [if_neg (fun q => h ((nI_ltI hy hx).mp q)), Nat.min_eq_left (by omega)]
