/-! Orders of nimbers below 256, by powers of one that makes them all. -/
def n_g : Nat := 18
def n_G : Nat := 53923012791069246470821998567011995800850233856890876235717597537257957473746554873926098674766545303141554065016596368807321602544016095053477740559167648919253285370386773458545906445231828662889284492796032177557402764083338106914769212857570418704082845494726122369498579957650760868505426602817524179372407676830773988463970310149057784568497713990144539656171275010268464264221945635144071224024489827751809502321887079997572695228291945167401593164791954670700602284295785355124911206575974431957360373249483915477173334283721314012064983093439899590974018261141598858947217799813098813798951781810512269825
def n_Lg : Nat := 20616166119539287192357250697004522384438806975139297402703045838389526031492655624262092933458816990365656314467108064693622658158978774990632233979558361434360650278966430271226681574575008396320435332688730129682188019274740445632651813319890589161168125654835586268853616397703125106974360219598314825953321460988828397135614670103656012563790923775673605712468851228903657575033462575616294824837522591715206354360488767826334638767354628408099361951535672747779535335084915993297821536661256743650781929690504375576989432440489731105397671187558502043903472940821855775313549309783348371351501130235010786590720
def n_Gt (j : Nat) : Nat := (n_G >>> (8 * j)) % 256
def n_Lt (x : Nat) : Nat := (n_Lg >>> (8 * x)) % 256
theorem n_G1 : ((List.range 254).all fun j => decide (nm (n_Gt j) n_g = n_Gt (j + 1))) = true := by decide +kernel
theorem n_G2 : n_Gt 0 = 1 ∧ nm (n_Gt 254) n_g = 1 := by decide +kernel
theorem n_G3 : ((List.range 255).all fun j => decide (j = 0) || !decide (n_Gt j = 1)) = true := by decide +kernel
theorem n_G4 : ((List.range 256).all fun x => decide (x = 0) || (decide (n_Lt x < 255) && decide (n_Gt (n_Lt x) = x))) = true := by decide +kernel
theorem n_Gpow : ∀ j, np n_g j = n_Gt (j % 255)
  | 0 => n_G2.1.symm
  | j + 1 => by
    rw [np, n_Gpow j]
    by_cases h : j % 255 = 254
    · rw [h, n_G2.2, show (j + 1) % 255 = 0 by omega]
      exact n_G2.1.symm
    · have h1 := List.all_eq_true.mp n_G1 (j % 255) (List.mem_range.mpr (by omega))
      rw [decide_eq_true_eq] at h1
      rw [h1, show (j + 1) % 255 = j % 255 + 1 by omega]
theorem n_Gone (j : Nat) : np n_g j = 1 ↔ j % 255 = 0 := by
  rw [n_Gpow]
  constructor
  · intro h
    have h1 := List.all_eq_true.mp n_G3 (j % 255) (List.mem_range.mpr (by omega))
    rw [Bool.or_eq_true, decide_eq_true_eq] at h1
    rcases h1 with h1 | h1
    · exact h1
    · rw [h] at h1
      simp at h1
  · intro h
    rw [h]
    exact n_G2.1
theorem np_mul (x e : Nat) : ∀ j, np (np x e) j = np x (e * j)
  | 0 => rfl
  | j + 1 => by rw [np, np_mul x e j, Nat.mul_succ, np_add]
theorem n_log {x : Nat} (h0 : x ≠ 0) (h : x < 256) : ∃ e, e < 255 ∧ x = np n_g e := by
  have h1 := List.all_eq_true.mp n_G4 x (List.mem_range.mpr h)
  rw [Bool.or_eq_true, Bool.and_eq_true, decide_eq_true_eq, decide_eq_true_eq, decide_eq_true_eq] at h1
  obtain ⟨h2, h3⟩ := h1.resolve_left h0
  exact ⟨n_Lt x, h2, by rw [n_Gpow, Nat.mod_eq_of_lt h2, h3]⟩
/-- the same by exponents -/
def o_st (od pr e : Nat) : Nat := if e * (od / pr) % 255 = 0 then od / pr else od
def o_of (e : Nat) : Nat := o_st (o_st (o_st (o_st 65535 3 e) 5 e) 17 e) 257 e
theorem o_all : ((List.range 255).all fun e => decide (1 ≤ o_of e) && (decide (o_of e ≤ 255) && (decide (e * o_of e % 255 = 0) && (List.range (o_of e)).all fun j => decide (j = 0) || !decide (e * j % 255 = 0)))) = true := by decide +kernel
theorem o_is {e : Nat} (h : e < 255) : 1 ≤ o_of e ∧ o_of e ≤ 255 ∧ e * o_of e % 255 = 0 ∧ ∀ j, 1 ≤ j → j < o_of e → ¬ e * j % 255 = 0 := by
  have h1 := List.all_eq_true.mp o_all e (List.mem_range.mpr h)
  rw [Bool.and_eq_true, Bool.and_eq_true, Bool.and_eq_true, decide_eq_true_eq, decide_eq_true_eq, decide_eq_true_eq] at h1
  refine ⟨h1.1, h1.2.1, h1.2.2.1, fun j hj hj2 => ?_⟩
  have h2 := List.all_eq_true.mp h1.2.2.2 j (List.mem_range.mpr hj2)
  rw [Bool.or_eq_true, decide_eq_true_eq] at h2
  have h3 := h2.resolve_left (by omega)
  simpa using h3
theorem o_step {x e : Nat} (hx : x = np n_g e) (od pr : Nat) : m_obP od pr x = o_st od pr e := by
  have h : (np x (od / pr) = 1) = (e * (od / pr) % 255 = 0) := by rw [hx, np_mul]; exact propext (n_Gone _)
  simp only [m_obP, o_st, h]
theorem np0 : ∀ k, 1 ≤ k → np 0 k = 0
  | 0, h => by omega
  | k + 1, _ => by rw [np, nm_zero']
theorem n_ord_small {x : Nat} {r : Int32} (hx : x < 256) (h : n_ordS x r) : r = n_ord x := by
  by_cases h0 : x = 0
  · subst h0
    rw [n_ord, if_pos rfl]
    rcases h with ⟨h, -⟩ | ⟨k, h, h1, h2, h3, -⟩
    · exact h
    · rw [np0 k h1] at h3
      omega
  · obtain ⟨e, he, hxe⟩ := n_log h0 hx
    obtain ⟨o1, o2, o3, o4⟩ := o_is he
    have key : ∀ j, (np x j = 1) ↔ e * j % 255 = 0 := fun j => by rw [hxe, np_mul]; exact n_Gone _
    rw [n_ord, if_neg h0, o_step hxe, o_step hxe, o_step hxe, o_step hxe]
    show r = nI (o_of e)
    rcases h with ⟨-, h⟩ | ⟨k, h, h1, h2, h3, h4⟩
    · exact absurd ((key _).mpr o3) (h _ o1 o2)
    · rw [h]
      congr 1
      rcases Nat.lt_trichotomy k (o_of e) with q | q | q
      · exact absurd ((key k).mp h3) (o4 k h1 q)
      · exact q
      · exact absurd ((key _).mpr o3) (h4 _ o1 q)
