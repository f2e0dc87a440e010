/-! what the reference's methods say, over the numbers that it holds -/
def mN (y : MS) : Nat := cl (y.1 0 7)
theorem or0 (x : Int32) : x ||| 0 = x := by simp
theorem isW_pr {q x : Int32} {n : Nat} (hx : x = nI n) (hn : n < 2 ^ 31) (h : isW q 0 (x - 1) = true) : q = nI (cl q) ∧ cl q < n := by
  simp only [isW, Bool.and_eq_true, decide_eq_true_eq] at h
  obtain ⟨h1, h2⟩ := h
  obtain ⟨j, hj, rfl⟩ := nI_of h1
  rw [cl, nI_clamp hj]
  refine ⟨rfl, ?_⟩
  rw [hx] at h2
  rcases Nat.eq_zero_or_pos n with z | z
  · subst z
    exfalso
    apply h2
    apply Int32.lt_iff_toInt_lt.mpr
    have e : (nI 0 - 1).toInt = -1 := by decide
    rw [e, nI_toInt hj]
    omega
  · rw [show (1 : Int32) = nI 1 from rfl, pk_sub (by omega)] at h2
    have := Nat.le_of_not_lt (fun w => h2 ((nI_ltI (by omega) hj).mpr w))
    omega
theorem isW_pt {q x : Int32} {n i : Nat} (hx : x = nI n) (hn : n < 2 ^ 31) (hq : q = nI i) (hi : i < n) : isW q 0 (x - 1) = true := by
  rw [hx, hq]
  simp only [isW, Bool.and_eq_true, decide_eq_true_eq]
  rw [show (1 : Int32) = nI 1 from rfl, pk_sub (by omega)]
  exact ⟨nI_pos (by omega), fun h => by have := (nI_ltI (by omega) (by omega)).mp h; omega⟩
def zPA (g : Nat → Int32) (wh : Int32) : Nat → Bool := fun j => decide (g (35 + 9 * j + 4) = wh)
def zPotsAt (y : MS) (wh : Int32) : Int32 := mk (zPA (y.1 0) wh) (mN y)
def oneN (s : Int32) : Nat → Int32
  | 0 => 0
  | i + 1 => oneN s i + ((s >>> (nI i &&& 31)) &&& 1)
def zWh (g : Nat → Int32) (q : Int32) (j : Nat) : Nat → Int32
  | 0 => -6
  | i + 1 => if g (215 + 21 * i + j) = q then nI i else zWh g q j i
def zTk (g : Nat → Int32) (pl : Int32) : Nat → Bool
  | 0 => false
  | i + 1 => zTk g pl i || (decide (g (35 + 9 * i + 4) = 0) && decide (g (35 + 9 * i + 5) = pl))
def zSz (g : Nat → Int32) : Nat → Int32
  | 0 => 0
  | i + 1 => if g (35 + 9 * i + 4) = 1 then zSz g i + g (35 + 9 * i + 1) else zSz g i
def zOther (g : Nat → Int32) (kd : Int32) : Nat → Bool
  | 0 => false
  | i + 1 => zOther g kd i || (decide (g (35 + 9 * i + 4) = 1) && decide (¬ g (35 + 9 * i + 3) = kd))
def zFreeP (y : MS) : Nat → Bool := fun j => zTk (y.1 0) (nI j) (mN y)
def zPlace (y : MS) : Int32 := nI (fnN (zFreeP y) 0 21)
theorem add0 (x : Int32) : x + 0 = x := by simp
theorem zTk_has {g : Nat → Int32} {pl : Int32} : ∀ {n : Nat}, zTk g pl n = true → ∃ p, p < n ∧ g (35 + 9 * p + 5) = pl
  | 0, h => by cases h
  | n + 1, h => by
    rcases Bool.or_eq_true _ _ |>.mp h with h | h
    · obtain ⟨p, h1, h2⟩ := zTk_has h
      exact ⟨p, by omega, h2⟩
    · have := (Bool.and_eq_true _ _ |>.mp h).2
      exact ⟨n, by omega, of_decide_eq_true this⟩
theorem hole_2 : ∀ (m n : Nat) (f : Nat → Nat), (∀ i, i < n → f i < m) → (∀ i j, i < j → j < n → f i ≠ f j) → n ≤ m
  | m, 0, _, _, _ => Nat.zero_le m
  | 0, n + 1, f, h, _ => absurd (h 0 (by omega)) (Nat.not_lt_zero _)
  | m + 1, n + 1, f, h, h2 => by
    have := hole_2 m n (fun i => if f i = m then f n else f i) (fun i hi => by
      have a := h i (by omega)
      have b := h n (by omega)
      have c := h2 i n hi (by omega)
      split <;> omega) (fun i j hij hj => by
      have a := h2 i j hij (by omega)
      have b := h2 i n (by omega) (by omega)
      have c := h2 j n hj (by omega)
      split <;> split <;> omega)
    omega
theorem zFree_ex (y : MS) (h : mN y ≤ 20) : ∃ j, j < 21 ∧ zFreeP y j = false := by
  apply Classical.byContradiction
  intro hno
  have hall : ∀ j, j < 21 → ∃ p, p < mN y ∧ y.1 0 (35 + 9 * p + 5) = nI j := by
    intro j hj
    have : zFreeP y j = true := by
      cases hz : zFreeP y j with
      | true => rfl
      | false => exact absurd ⟨j, hj, hz⟩ hno
    exact zTk_has this
  have := hole_2 (mN y) 21 (fun j => if hj : j < 21 then (hall j hj).choose else 0) (fun i hi => by
    rw [dif_pos hi]
    exact (hall i hi).choose_spec.1) (fun i j hij hj => by
    rw [dif_pos (by omega : i < 21), dif_pos hj]
    intro he
    have a := (hall i (by omega)).choose_spec.2
    have b := (hall j hj).choose_spec.2
    rw [he] at a
    have := (nI_eq (by omega) (by omega)).mp (a.symm.trans b)
    omega)
  omega
theorem fnN_stop {P : Nat → Bool} : ∀ {n i : Nat}, (∃ j, i ≤ j ∧ j < i + n ∧ P j = false) → P (fnN P i n) = false ∧ fnN P i n < i + n
  | 0, i, h => by obtain ⟨j, h1, h2, -⟩ := h; omega
  | n + 1, i, h => by
    by_cases hp : P i = true
    · rw [show fnN P i (n + 1) = fnN P (i + 1) n from if_pos hp]
      obtain ⟨j, h1, h2, h3⟩ := h
      have hne : i ≠ j := fun e => by rw [e, h3] at hp; cases hp
      have := fnN_stop (P := P) (n := n) (i := i + 1) ⟨j, by omega, by omega, h3⟩
      exact ⟨this.1, by omega⟩
    · rw [show fnN P i (n + 1) = i from if_neg hp]
      refine ⟨?_, by omega⟩
      cases h2 : P i with
      | true => exact absurd h2 hp
      | false => rfl
