/-! the text of orders, by its codes g, its length n and a place p: what class and reference both read -/
def sg (g : Nat → Int32) (n p : Nat) : Int32 := if n ≤ p then 0 else g p
abbrev isD (c : Int32) : Bool := isW c 48 57
def numE (g : Nat → Int32) (n p : Nat) : Nat := if isD (sg g n p) = true then (if sg g n p - 48 ≤ 0 then p + 1 else if isD (sg g n (p + 1)) = true then (if isD (sg g n (p + 2)) = true then p + 3 else p + 2) else p + 1) else p
def numV (g : Nat → Int32) (n p : Nat) : Int32 := if isD (sg g n p) = true then (if sg g n p - 48 ≤ 0 then sg g n p - 48 else if isD (sg g n (p + 1)) = true then (if isD (sg g n (p + 2)) = true then 10 * (10 * (sg g n p - 48) + (sg g n (p + 1) - 48)) + (sg g n (p + 2) - 48) else 10 * (sg g n p - 48) + (sg g n (p + 1) - 48)) else sg g n p - 48) else -1
theorem sg_in {g : Nat → Int32} {n p : Nat} (h : isD (sg g n p) = true) : p < n := by
  rcases Nat.lt_or_ge p n with q | q
  · exact q
  · rw [sg, if_pos q] at h; exact absurd h (by decide)
theorem sg_ne {g : Nat → Int32} {n p : Nat} {c : Int32} (h : sg g n p = c) (hc : ¬ c = 0) : p < n := by
  rcases Nat.lt_or_ge p n with q | q
  · exact q
  · rw [sg, if_pos q] at h; exact absurd h.symm hc
theorem isD_v {c : Int32} (h : isD c = true) : ∃ d : Nat, d ≤ 9 ∧ c - 48 = nI d ∧ c = nI (48 + d) := by
  obtain ⟨j, h1, h2, rfl⟩ := isW_of (lo := 48) (hi := 57) (by decide) (by decide) h
  refine ⟨j - 48, by omega, ?_, by rw [show 48 + (j - 48) = j by omega]⟩
  rw [show (48 : Int32) = nI 48 from rfl, pk_sub h1]
theorem isD_f {c : Int32} (h : isD c = true) : ¬ c - 48 < 0 := by
  obtain ⟨d, h1, h2, -⟩ := isD_v h
  rw [h2]
  exact nI_pos (by omega)
theorem isD_9 (c : Int32) : isW (c - 48) 0 9 = isD c := by
  cases h : isD c with
  | true =>
    obtain ⟨d, h1, h2, -⟩ := isD_v h
    rw [h2]
    simp only [isW, Bool.and_eq_true, decide_eq_true_eq]
    exact ⟨nI_pos (by omega), fun z => by have := (nI_ltI (a := 9) (b := d) (by decide) (by omega)).mp z; omega⟩
  | false =>
    cases h2 : isW (c - 48) 0 9 with
    | false => rfl
    | true =>
      obtain ⟨j, a, b, e⟩ := isW_of (lo := 0) (hi := 9) (by decide) (by decide) h2
      have hc : c = nI (48 + j) := by
        have : c = (c - 48) + 48 := by simp
        rw [this, e, show (48 : Int32) = nI 48 from rfl, nI_add, Nat.add_comm]
      rw [hc] at h
      have : isD (nI (48 + j)) = true := by
        simp only [isD, isW, Bool.and_eq_true, decide_eq_true_eq]
        refine ⟨fun z => ?_, fun z => ?_⟩
        · have := (nI_ltI (a := 48 + j) (b := 48) (by omega) (by decide)).mp z; omega
        · have := (nI_ltI (a := 57) (b := 48 + j) (by decide) (by omega)).mp z; omega
      rw [this] at h
      cases h
theorem dig2 {a b : Int32} (ha : isD a = true) (hb : isD b = true) (h : ¬ a - 48 ≤ 0) : ¬ 10 * (a - 48) + (b - 48) ≤ 0 := by
  obtain ⟨x, h1, h2, -⟩ := isD_v ha
  obtain ⟨y, h3, h4, -⟩ := isD_v hb
  rw [h2] at h ⊢
  rw [h4, show (10 : Int32) = nI 10 from rfl, pk_mul, nI_add]
  intro z
  have z2 := (nI_leI (a := 10 * x + y) (b := 0) (by omega) (by decide)).mp z
  exact h ((nI_leI (a := x) (b := 0) (by omega) (by decide)).mpr (by omega))
/-- an order: whether it can be read, the place behind it (or of the fault), its numbers -/
def ordr (g : Nat → Int32) (n p : Nat) : Bool × Nat × Int32 × Int32 × Int32 :=
  if sg g n p = 112 then (true, p + 1, 0, 0, 0)
  else if sg g n p = 98 then (if isD (sg g n (p + 1)) = true then (if isD (sg g n (p + 2)) = true then (if sg g n (p + 3) = 43 then (if isD (sg g n (p + 4)) = true then (true, numE g n (p + 4), sg g n (p + 1) - 48, sg g n (p + 2) - 48, numV g n (p + 4)) else (false, p + 4, 0, 0, 0)) else (true, p + 3, sg g n (p + 1) - 48, sg g n (p + 2) - 48, 0)) else (false, p + 2, 0, 0, 0)) else (false, p + 1, 0, 0, 0))
  else if sg g n p = 116 then (if isD (sg g n (p + 1)) = true then (if sg g n (p + 2) = 42 then (if isD (sg g n (p + 3)) = true then (true, p + 4, sg g n (p + 1) - 48, sg g n (p + 3) - 48, 0) else (false, p + 3, 0, 0, 0)) else (false, p + 2, 0, 0, 0)) else (false, p + 1, 0, 0, 0))
  else if sg g n p = 103 then (if isD (sg g n (p + 1)) = true then (if sg g n (numE g n (p + 1)) = 46 then (if isD (sg g n (numE g n (p + 1) + 1)) = true then (true, numE g n (p + 1) + 2, numV g n (p + 1), sg g n (numE g n (p + 1) + 1) - 48, 0) else (false, numE g n (p + 1) + 1, 0, 0, 0)) else (false, numE g n (p + 1), 0, 0, 0)) else (false, p + 1, 0, 0, 0))
  else if sg g n p = 108 ∨ sg g n p = 102 ∨ sg g n p = 110 ∨ sg g n p = 104 then (if isD (sg g n (p + 1)) = true then (true, numE g n (p + 1), numV g n (p + 1), 0, 0) else (false, p + 1, 0, 0, 0))
  else (false, p, 0, 0, 0)
theorem numE_b (g : Nat → Int32) (n p : Nat) (h : isD (sg g n p) = true) : p < numE g n p ∧ numE g n p ≤ n := by
  have h0 := sg_in h
  unfold numE
  rw [if_pos h]
  split
  · exact ⟨by omega, by omega⟩
  · split
    · rename_i h1
      have := sg_in h1
      split
      · rename_i h2
        have := sg_in h2
        exact ⟨by omega, by omega⟩
      · exact ⟨by omega, by omega⟩
    · exact ⟨by omega, by omega⟩
theorem numE_3 (g : Nat → Int32) (n p : Nat) : numE g n p ≤ p + 3 := by
  unfold numE
  split
  · split
    · omega
    · split
      · split <;> omega
      · omega
  · omega
theorem ordr_b (g : Nat → Int32) (n p : Nat) (h : (ordr g n p).1 = true) : p < (ordr g n p).2.1 ∧ (ordr g n p).2.1 ≤ n := by
  unfold ordr at h ⊢
  by_cases h1 : sg g n p = 112
  · rw [if_pos h1]
    exact ⟨Nat.lt_succ_self p, sg_ne h1 (by decide)⟩
  rw [if_neg h1] at h ⊢
  by_cases h2 : sg g n p = 98
  · rw [if_pos h2] at h ⊢
    split at h
    · split at h
      · split at h
        · split at h
          · rename_i a b c d
            rw [if_pos a, if_pos b, if_pos c, if_pos d]
            have := numE_b g n (p + 4) d
            exact ⟨by show p < numE g n (p + 4); omega, this.2⟩
          · cases h
        · rename_i a b c
          rw [if_pos a, if_pos b, if_neg c]
          have := sg_in b
          exact ⟨by show p < p + 3; omega, by show p + 3 ≤ n; omega⟩
      · cases h
    · cases h
  rw [if_neg h2] at h ⊢
  by_cases h3 : sg g n p = 116
  · rw [if_pos h3] at h ⊢
    split at h
    · split at h
      · split at h
        · rename_i a b c
          rw [if_pos a, if_pos b, if_pos c]
          have := sg_in c
          exact ⟨by show p < p + 4; omega, by show p + 4 ≤ n; omega⟩
        · cases h
      · cases h
    · cases h
  rw [if_neg h3] at h ⊢
  by_cases h4 : sg g n p = 103
  · rw [if_pos h4] at h ⊢
    split at h
    · split at h
      · split at h
        · rename_i a b c
          rw [if_pos a, if_pos b, if_pos c]
          have h5 := sg_in c
          have h6 := numE_b g n (p + 1) a
          exact ⟨by show p < numE g n (p + 1) + 2; omega, by show numE g n (p + 1) + 2 ≤ n; omega⟩
        · cases h
      · cases h
    · cases h
  rw [if_neg h4] at h ⊢
  split at h
  · rename_i a
    rw [if_pos a]
    split at h
    · rename_i b
      rw [if_pos b]
      have h6 := numE_b g n (p + 1) b
      exact ⟨by show p < numE g n (p + 1); omega, h6.2⟩
    · cases h
  · cases h
theorem ordr_5 (g : Nat → Int32) (n p : Nat) : p ≤ (ordr g n p).2.1 ∧ (ordr g n p).2.1 ≤ p + 7 := by
  have a4 := numE_3 g n (p + 4)
  have a1 := numE_3 g n (p + 1)
  have b4 : p + 4 ≤ numE g n (p + 4) := by
    unfold numE; repeat' split
    all_goals omega
  have b1 : p + 1 ≤ numE g n (p + 1) := by
    unfold numE; repeat' split
    all_goals omega
  unfold ordr
  repeat' split
  all_goals (dsimp only; omega)
def flt (g : Nat → Int32) (n : Nat) : Nat → Nat → Int32
  | 0, p => nI p
  | k + 1, p => if (ordr g n p).1 = true then (if (ordr g n p).2.1 = n then -6 else if sg g n (ordr g n p).2.1 = 59 then flt g n k ((ordr g n p).2.1 + 1) else nI (ordr g n p).2.1) else nI (ordr g n p).2.1
