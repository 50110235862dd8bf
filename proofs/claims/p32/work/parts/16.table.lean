/-! The table of products below 16, and the least numbers. -/
def n_K : Nat := 105869934573458929506328375061315679171845852290158294152364606998566138674788542437607012108590681290039201854413661647678221215878256740644142704492826533379271178812567475734100749217218550151073389438700294400309340617321998747341553871339115878427482513263866732641709495414604747141407345988080972595200
def n_T (a b : Nat) : Nat := (n_K >>> (4 * (16 * a + b))) % 16
theorem n_T_all : ((List.range 16).all fun a => (List.range 16).all fun b => decide (n_T a b = nm a b)) = true := by decide +kernel
theorem n_T_eq {a b : Nat} (ha : a < 16) (hb : b < 16) : n_T a b = nm a b := by
  have := List.all_eq_true.mp (List.all_eq_true.mp n_T_all a (List.mem_range.mpr ha)) b (List.mem_range.mpr hb)
  simpa using this
theorem nm_16 {a b : Nat} (ha : a < 16) (hb : b < 16) : nm a b < 16 := by
  rw [← n_T_eq ha hb]
  exact Nat.mod_lt _ (by decide)
/-- the numbers seen in row c, up to d; in the rows up to c -/
def n_sd (g : Nat → Nat → Nat) (r cl c : Nat) : Nat → Nat → Nat
  | 0, s => s
  | d + 1, s => n_sd g r cl c d s ||| (1 <<< ((g c cl ^^^ g r d) ^^^ g c d))
def n_sc (g : Nat → Nat → Nat) (r cl : Nat) : Nat → Nat
  | 0 => 0
  | c + 1 => n_sd g r cl c cl (n_sc g r cl c)
theorem n_sd_eq {r cl c : Nat} (hr : r < 16) (hcl : cl < 16) (hc : c < 16) : ∀ d s, d ≤ 16 → n_sd n_T r cl c d s = n_sd nm r cl c d s
  | 0, s, _ => rfl
  | d + 1, s, h => by
    rw [n_sd, n_sd, n_sd_eq hr hcl hc d s (by omega), n_T_eq hc hcl, n_T_eq hr (by omega), n_T_eq hc (by omega)]
theorem n_sc_eq {r cl : Nat} (hr : r < 16) (hcl : cl < 16) : ∀ c, c ≤ 16 → n_sc n_T r cl c = n_sc nm r cl c
  | 0, _ => rfl
  | c + 1, h => by
    rw [n_sc, n_sc, n_sc_eq hr hcl c (by omega), n_sd_eq hr hcl (by omega) cl _ (by omega)]
theorem n_mex_all : ((List.range 16).all fun r => (List.range 16).all fun cl => (!(n_sc n_T r cl r).testBit (n_T r cl)) && (List.range (n_T r cl)).all fun k => (n_sc n_T r cl r).testBit k) = true := by decide +kernel
theorem n_mex {r cl : Nat} (hr : r < 16) (hcl : cl < 16) : (n_sc nm r cl r).testBit (nm r cl) = false ∧ ∀ k, k < nm r cl → (n_sc nm r cl r).testBit k = true := by
  have h := List.all_eq_true.mp (List.all_eq_true.mp n_mex_all r (List.mem_range.mpr hr)) cl (List.mem_range.mpr hcl)
  rw [n_sc_eq hr hcl r (by omega), n_T_eq hr hcl] at h
  rw [Bool.and_eq_true] at h
  refine ⟨by simpa using h.1, fun k hk => ?_⟩
  exact List.all_eq_true.mp h.2 k (List.mem_range.mpr hk)
theorem n_mex_is {r cl v : Nat} (hr : r < 16) (hcl : cl < 16) (h1 : ∀ k, k < v → (n_sc nm r cl r).testBit k = true) (h2 : 16 ≤ v ∨ ¬ (n_sc nm r cl r).testBit v = true) : v = nm r cl := by
  obtain ⟨m1, m2⟩ := n_mex hr hcl
  have hlt := nm_16 hr hcl
  rcases Nat.lt_trichotomy v (nm r cl) with q | q | q
  · rcases h2 with h2 | h2
    · omega
    · exact absurd (m2 v q) h2
  · exact q
  · rw [h1 _ q] at m1
    cases m1
theorem n_x4 {a b : Nat} (ha : a < 16) (hb : b < 16) : a ^^^ b < 16 := Nat.xor_lt_two_pow (n := 4) ha hb
theorem n_o16 {a b : Nat} (ha : a < 65536) (hb : b < 65536) : a ||| b < 65536 := Nat.or_lt_two_pow (n := 16) ha hb
/-- the rows below n are filled -/
def n_tf (n : Nat) (f : Nat → Nat) : Prop := ∀ i j : Nat, i < n → j < 16 → f (16 * i + j) = nm i j
/-- .. and of row n the columns below k -/
def n_tg (n k : Nat) (f : Nat → Nat) : Prop := n_tf n f ∧ ∀ j : Nat, j < k → f (16 * n + j) = nm n j
theorem n_tg_put {n k v : Nat} {f : Nat → Nat} (h : n_tg n k f) (hk : k < 16) (hv : v = nm n k) : n_tg n (k + 1) (m_up f (16 * n + k) v) := by
  refine ⟨fun i j hi hj => ?_, fun j hj => ?_⟩
  · rw [m_upn f v (by omega)]
    exact h.1 i j hi hj
  · by_cases e : j = k
    · subst e
      rw [m_ups]
      exact hv
    · rw [m_upn f v (by omega)]
      exact h.2 j (by omega)
theorem n_tg_row {n k : Nat} {f : Nat → Nat} (h : n_tg n k f) (hk : 16 ≤ k) : n_tf (n + 1) f := fun i j hi hj => by
  by_cases e : i = n
  · subst e
    exact h.2 j (by omega)
  · exact h.1 i j (by omega) hj
