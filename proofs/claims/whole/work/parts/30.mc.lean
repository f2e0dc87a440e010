/-! the reference's reading numbers in one form -/
def mC (y : MS) (p : Nat) (wr le a b c : Int32) : MS := (y.1, fun i => if i = 2 then nI p else if i = 3 then wr else if i = 4 then le else if i = 5 then a else if i = 6 then b else if i = 7 then c else y.2 i)
theorem mS_ext {y y2 : MS} (h1 : y.1 = y2.1) (h2 : ∀ i, y.2 i = y2.2 i) : y = y2 := by
  obtain ⟨a, b⟩ := y
  obtain ⟨a2, b2⟩ := y2
  have hb : b = b2 := funext h2
  have ha : a = a2 := h1
  rw [ha, hb]
theorem mC_2 (q : MS) (p : Nat) (wr le a b c x : Int32) {pp : Nat} (hx : x = nI pp) : mC q pp wr le a b c = mSc (mC q p wr le a b c) 2 x := by
  refine mS_ext rfl (fun i => ?_)
  show (if i = 2 then _ else _) = va_up (mC q p wr le a b c).2 2 x i
  subst hx
  unfold va_up mC
  dsimp only
  by_cases h : i = 2
  · subst h; simp
  · simp [h]
theorem mC_3 (q : MS) (p : Nat) (wr le a b c x : Int32) : mC q p x le a b c = mSc (mC q p wr le a b c) 3 x := by
  refine mS_ext rfl (fun i => ?_)
  show (if i = 2 then _ else _) = va_up (mC q p wr le a b c).2 3 x i
  unfold va_up mC
  dsimp only
  by_cases h : i = 3
  · subst h; simp
  · simp [h]
theorem mC_4 (q : MS) (p : Nat) (wr le a b c x : Int32) : mC q p wr x a b c = mSc (mC q p wr le a b c) 4 x := by
  refine mS_ext rfl (fun i => ?_)
  show (if i = 2 then _ else _) = va_up (mC q p wr le a b c).2 4 x i
  unfold va_up mC
  dsimp only
  by_cases h : i = 4
  · subst h; simp
  · simp [h]
theorem mC_5 (q : MS) (p : Nat) (wr le a b c x : Int32) : mC q p wr le x b c = mSc (mC q p wr le a b c) 5 x := by
  refine mS_ext rfl (fun i => ?_)
  show (if i = 2 then _ else _) = va_up (mC q p wr le a b c).2 5 x i
  unfold va_up mC
  dsimp only
  by_cases h : i = 5
  · subst h; simp
  · simp [h]
theorem mC_6 (q : MS) (p : Nat) (wr le a b c x : Int32) : mC q p wr le a x c = mSc (mC q p wr le a b c) 6 x := by
  refine mS_ext rfl (fun i => ?_)
  show (if i = 2 then _ else _) = va_up (mC q p wr le a b c).2 6 x i
  unfold va_up mC
  dsimp only
  by_cases h : i = 6
  · subst h; simp
  · simp [h]
theorem mC_7 (q : MS) (p : Nat) (wr le a b c x : Int32) : mC q p wr le a b x = mSc (mC q p wr le a b c) 7 x := by
  refine mS_ext rfl (fun i => ?_)
  show (if i = 2 then _ else _) = va_up (mC q p wr le a b c).2 7 x i
  unfold va_up mC
  dsimp only
  by_cases h : i = 7
  · subst h; simp
  · simp [h]
theorem mC_s (q : MS) {p : Nat} (h : q.2 2 = nI p) : mC q p (q.2 3) (q.2 4) (q.2 5) (q.2 6) (q.2 7) = q := by
  refine mS_ext rfl (fun i => ?_)
  unfold mC
  dsimp only
  repeat' split
  · rename_i e; rw [e, h]
  · rename_i e; rw [e]
  · rename_i e; rw [e]
  · rename_i e; rw [e]
  · rename_i e; rw [e]
  · rename_i e; rw [e]
  · rfl
theorem mC_z (q : MS) : mC q 0 (q.2 3) (q.2 4) (q.2 5) (q.2 6) (q.2 7) = mSc q 2 0 := by
  refine mS_ext rfl (fun i => ?_)
  show (if i = 2 then _ else _) = va_up q.2 2 0 i
  unfold va_up
  by_cases h : i = 2
  · subst h; rfl
  · rw [if_neg h, if_neg h]
    repeat' split
    · rename_i e; rw [e]
    · rename_i e; rw [e]
    · rename_i e; rw [e]
    · rename_i e; rw [e]
    · rename_i e; rw [e]
    · rfl
/-- the same but for the reading numbers -/
def mEq (y y2 : MS) : Prop := y2.1 = y.1 ∧ y2.2 0 = y.2 0 ∧ y2.2 1 = y.2 1
theorem mEq_C (y : MS) (p : Nat) (wr le a b c : Int32) : mEq y (mC y p wr le a b c) := ⟨rfl, rfl, rfl⟩
theorem i_ab (x c : Int32) : x + c - 48 = x + (c - 48) := by rw [Int32.sub_eq_add_neg, Int32.sub_eq_add_neg, Int32.add_assoc]
theorem num_2 {a b : Int32} (ha : isD a = true) (hb : isD b = true) : ∃ v : Nat, v ≤ 99 ∧ 10 * (a - 48) + (b - 48) = nI v ∧ (¬ a - 48 ≤ 0 → 10 ≤ v) := by
  obtain ⟨x, h1, h2, -⟩ := isD_v ha
  obtain ⟨y, h3, h4, -⟩ := isD_v hb
  refine ⟨10 * x + y, by omega, ?_, fun h => ?_⟩
  · rw [h2, h4, show (10 : Int32) = nI 10 from rfl, pk_mul, nI_add]
  · rw [h2] at h
    have : ¬ x ≤ 0 := fun z => h ((nI_leI (a := x) (b := 0) (by omega) (by decide)).mpr z)
    omega
theorem num_3 {v : Nat} {c : Int32} (hv : v ≤ 999) (hc : isD c = true) : ∃ d : Nat, d ≤ 9 ∧ 10 * nI v + (c - 48) = nI (10 * v + d) := by
  obtain ⟨y, h3, h4, -⟩ := isD_v hc
  refine ⟨y, h3, ?_⟩
  rw [h4, show (10 : Int32) = nI 10 from rfl, pk_mul, nI_add]
theorem num_a {a b : Int32} (ha : isD a = true) (hb : isD b = true) : ¬ 999 < 10 * (a - 48) + b - 48 := by
  obtain ⟨v, h1, h2, -⟩ := num_2 ha hb
  rw [i_ab, h2]
  intro z
  have := (nI_ltI (a := 999) (b := v) (by decide) (by omega)).mp z
  omega
theorem num_b {a b c : Int32} (ha : isD a = true) (hb : isD b = true) (hc : isD c = true) : ¬ 999 < 10 * (10 * (a - 48) + (b - 48)) + c - 48 := by
  obtain ⟨v, h1, h2, -⟩ := num_2 ha hb
  obtain ⟨d, h3, h4⟩ := num_3 (v := v) (by omega) hc
  rw [i_ab, h2, h4]
  intro z
  have := (nI_ltI (a := 999) (b := 10 * v + d) (by decide) (by omega)).mp z
  omega
theorem num_c {a b c d : Int32} (ha : isD a = true) (hb : isD b = true) (hc : isD c = true) (hd : isD d = true) (h : ¬ a - 48 ≤ 0) : 999 < 10 * (10 * (10 * (a - 48) + (b - 48)) + (c - 48)) + d - 48 := by
  obtain ⟨v, h1, h2, h5⟩ := num_2 ha hb
  have h5 := h5 h
  obtain ⟨x, h3, h4⟩ := num_3 (v := v) (by omega) hc
  obtain ⟨y, h6, h7⟩ := num_3 (v := 10 * v + x) (by omega) hd
  rw [i_ab, h2, h4, h7]
  exact (nI_ltI (a := 999) (b := 10 * (10 * v + x) + y) (by decide) (by omega)).mpr (by omega)
theorem num_p {a b c : Int32} (ha : isD a = true) (hb : isD b = true) (hc : isD c = true) (h : ¬ a - 48 ≤ 0) : ¬ 10 * (10 * (a - 48) + (b - 48)) + (c - 48) ≤ 0 := by
  obtain ⟨v, h1, h2, h5⟩ := num_2 ha hb
  have h5 := h5 h
  obtain ⟨x, h3, h4⟩ := num_3 (v := v) (by omega) hc
  rw [h2, h4]
  intro z
  have := (nI_leI (a := 10 * v + x) (b := 0) (by omega) (by decide)).mp z
  omega
