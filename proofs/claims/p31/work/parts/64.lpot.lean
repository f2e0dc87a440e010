/-! what the law reads off its pots is what the reference reads off its row -/
section LPo
variable {J n np nt x : Nat} {zr : Nat → Int32} {z : ZS}
theorem PL_k {pl wh sp : Int32} (h : PL pl wh sp) : pl = 24 ↔ wh = 1 := by
  rcases h with ⟨h1, q, h2, h3, h4⟩ | ⟨h1, h2⟩ | ⟨h1, h2⟩
  · rw [h1, h3]
    exact ⟨fun e => by have := (nI_eq (b := 24) (by omega) (by decide)).mp e; omega, fun e => absurd e (by decide)⟩
  · exact ⟨fun _ => h1, fun _ => h2⟩
  · rw [h1, h2]; decide
theorem PL_r {pl wh sp : Int32} (h : PL pl wh sp) : pl ≤ 23 ↔ wh = 0 := by
  rcases h with ⟨h1, q, h2, h3, h4⟩ | ⟨h1, h2⟩ | ⟨h1, h2⟩
  · rw [h1, h3]
    exact ⟨fun _ => rfl, fun _ => (nI_leI (b := 23) (by omega) (by decide)).mpr (by omega)⟩
  · rw [h1, h2]; decide
  · rw [h1, h2]; decide
theorem PL_at {pl wh sp : Int32} (h : PL pl wh sp) {j : Nat} (hj : j < 24) : pl = nI j ↔ wh = 0 ∧ sp = nI j := by
  rcases h with ⟨h1, q, h2, h3, h4⟩ | ⟨h1, h2⟩ | ⟨h1, h2⟩
  · rw [h1, h3, h4]; exact ⟨fun e => ⟨rfl, e⟩, fun e => e.2⟩
  · rw [h1, h2]
    exact ⟨fun e => by have := (nI_eq (a := 24) (by decide) (by omega)).mp e; omega, fun e => absurd e.1 (by decide)⟩
  · rw [h1, h2]
    exact ⟨fun e => by have := (nI_eq (a := 25) (by decide) (by omega)).mp e; omega, fun e => absurd e.1 (by decide)⟩
theorem LZ_p (h : LZn J n np nt x zr z) {p : Nat} (hp : p < n) : ZP J (z.2.1 p) zr p := h.2.2.2.2.2 p hp
theorem LZ_pl (h : LZn J n np nt x zr z) {p : Nat} (hp : p < n) : PL (pt (z.2.1 p) 4) (zr (35 + 9 * p + 4)) (zr (35 + 9 * p + 5)) := (LZ_p h hp).2.2.2.2.1
theorem lTk_z (h : LZn J n np nt x zr z) {j : Nat} (hj : j < 24) : ∀ m, m ≤ n → lTk z.2.1 (nI j) m = !zTk zr (nI j) m
  | 0, _ => rfl
  | m + 1, hm => by
    show (lTk z.2.1 (nI j) m && decide (¬ pt (z.2.1 m) 4 = nI j)) = !(zTk zr (nI j) m || (decide (zr (35 + 9 * m + 4) = 0) && decide (zr (35 + 9 * m + 5) = nI j)))
    rw [lTk_z h hj m (by omega), Bool.not_or]
    congr 1
    have e := PL_at (LZ_pl h (p := m) (by omega)) hj
    by_cases a : pt (z.2.1 m) 4 = nI j
    · obtain ⟨a1, a2⟩ := e.mp a
      simp [a, a1, a2]
    · rw [decide_eq_true a]
      by_cases a1 : zr (35 + 9 * m + 4) = 0
      · by_cases a2 : zr (35 + 9 * m + 5) = nI j
        · exact absurd (e.mpr ⟨a1, a2⟩) a
        · simp [a1, a2]
      · simp [a1]
theorem lKs_z (h : LZn J n np nt x zr z) : ∀ m, m ≤ n → lKs z.2.1 m = zSz zr m
  | 0, _ => rfl
  | m + 1, hm => by
    show lKs z.2.1 m + (if pt (z.2.1 m) 4 = 24 then pt (z.2.1 m) 1 else 0) = if zr (35 + 9 * m + 4) = 1 then zSz zr m + zr (35 + 9 * m + 1) else zSz zr m
    rw [lKs_z h m (by omega)]
    have e := PL_k (LZ_pl h (p := m) (by omega))
    by_cases a : pt (z.2.1 m) 4 = 24
    · rw [if_pos a, if_pos (e.mp a), (LZ_p h (p := m) (by omega)).2.1.1]
    · rw [if_neg a, if_neg (fun q => a (e.mpr q)), add0]
theorem lOth_z (h : LZn J n np nt x zr z) (is : Int32) : ∀ m, m ≤ n → lOth z.2.1 is m = zOther zr is m
  | 0, _ => rfl
  | m + 1, hm => by
    show (lOth z.2.1 is m || (decide (pt (z.2.1 m) 4 = 24) && decide (¬ pt (z.2.1 m) 3 = is))) = (zOther zr is m || (decide (zr (35 + 9 * m + 4) = 1) && decide (¬ zr (35 + 9 * m + 3) = is)))
    rw [lOth_z h is m (by omega), (LZ_p h (p := m) (by omega)).2.2.2.1.1, decide_eq_decide.mpr (PL_k (LZ_pl h (p := m) (by omega)))]
theorem fnM_fnN {P Q : Nat → Bool} : ∀ {n i : Nat}, (∀ j, i ≤ j → j < i + n → Q j = !P j) → (∃ j, i ≤ j ∧ j < i + n ∧ P j = false) → fnM Q i n = nI (fnN P i n)
  | 0, i, _, hex => by obtain ⟨j, h1, h2, -⟩ := hex; omega
  | n + 1, i, hq, hex => by
    unfold fnM fnN
    rw [hq i (by omega) (by omega)]
    by_cases a : P i = true
    · rw [a, if_neg (by decide), if_pos rfl]
      obtain ⟨j, h1, h2, h3⟩ := hex
      have : j ≠ i := fun e => by rw [e, a] at h3; cases h3
      exact fnM_fnN (fun j h1 h2 => hq j (by omega) (by omega)) ⟨j, by omega, by omega, h3⟩
    · rw [if_neg a, if_pos (show (!P i) = true by cases b : P i with | false => rfl | true => exact absurd b a)]
theorem LZ_N (h : LZn J n np nt x zr z) : mN (mz zr) = n := mzN h.2.1.1 h.1.1
theorem lFree_z (h : LZn J n np nt x zr z) : lFree z.2.1 n = zPlace (mz zr) := by
  have hN := LZ_N h
  obtain ⟨j, hj, hz⟩ := zFree_ex (mz zr) (by rw [hN]; exact h.1.1)
  have e : zFreeP (mz zr) = fun j => zTk zr (nI j) n := by funext j; unfold zFreeP; rw [hN]; rfl
  unfold lFree zPlace
  rw [fnM_fnN (P := zFreeP (mz zr)) (fun j _ h2 => by rw [e]; exact lTk_z h (by omega) n (Nat.le_refl _)) ⟨j, by omega, by omega, hz⟩]
  exact congrArg nI (fnN_more (n := 21) 3 ⟨j, by omega, by omega, hz⟩)
/-- how much is wanting till a pot is dry -/
theorem dry_z (h : LZn J n np nt x zr z) {p : Nat} (hp : p < n) : ∃ a d : Nat, a ≤ 9 ∧ d ≤ 2000 ∧ z.1 2 * pt (z.2.1 p) 1 = nI a ∧ zr 2 * zr (35 + 9 * p + 1) = nI a ∧ zr (35 + 9 * p + 6) = nI d ∧ pt (z.2.1 p) 5 = nI (min d 60) := by
  obtain ⟨s, hs, e2⟩ := h.2.1.2.2.2.2
  obtain ⟨-, ⟨a1, c, c1, c2, c3⟩, -, -, -, ⟨d, d1, d2, d3⟩, -⟩ := LZ_p h hp
  have g2 : z.1 2 = zr 2 := h.2.2.1 2 (by decide)
  refine ⟨s * c, d, Nat.le_trans (Nat.mul_le_mul hs c2) (by decide), d1, ?_, ?_, d2, d3⟩
  · rw [g2, a1, e2, c3, pk_mul]
  · rw [e2, c3, pk_mul]
theorem sub_le0 {a d : Nat} (ha : a ≤ 9) (hd : d ≤ 2000) : nI a - nI d ≤ 0 ↔ a ≤ d := by
  rw [Int32.le_iff_toInt_le, pk_sub_toInt (by omega) (by omega)]
  show (a : Int) - d ≤ 0 ↔ _
  omega
theorem lWhy_z (h : LZn J n np nt x zr z) {p : Nat} (hp : p < n) : lWhy z.1 z.2.1 n p = vX7_whyNot (mz zr) (nI p) p := by
  obtain ⟨a, d, ha, hd, e1, e2, e3, e4⟩ := dry_z h hp
  have hN := LZ_N h
  have k3 : pt (z.2.1 p) 3 = zr (35 + 9 * p + 3) := (LZ_p h hp).2.2.2.1.1
  have k1 : pt (z.2.1 p) 1 = zr (35 + 9 * p + 1) := (LZ_p h hp).2.1.1
  have g3 : z.1 3 = zr 3 := h.2.2.1 3 (by decide)
  have hr := PL_r (LZ_pl h hp)
  have hdry : (z.1 2 * pt (z.2.1 p) 1 ≤ pt (z.2.1 p) 5) ↔ vX7_toDry (mz zr) (nI p) p ≤ 0 := by
    show _ ↔ zr 2 * zr (35 + 9 * p + 1) - zr (35 + 9 * p + 6) ≤ 0
    rw [e1, e2, e3, e4, sub_le0 ha hd, nI_leI (by omega) (by omega)]
    omega
  have m2 : (mz zr).1 0 = zr := rfl
  unfold lWhy vX7_whyNot
  rw [lOth_z h _ n (Nat.le_refl _), lKs_z h n (Nat.le_refl _), hN, m2, k3, k1, g3]
  rw [← k1]
  simp only [hr, hdry]
  rw [k1]
  by_cases c0 : zr (35 + 9 * p + 4) = 0
  · rw [if_neg (fun q => q c0), if_pos c0]
    by_cases c1 : zr (35 + 9 * p + 3) = 0
    · have n1 : ¬ zr (35 + 9 * p + 3) = 1 := by rw [c1]; decide
      have n2 : ¬ (zr (35 + 9 * p + 3) = 1 ∨ ¬ zr (35 + 9 * p + 3) ≤ 2) := fun q => q.elim n1 (fun q => q (by rw [c1]; decide))
      rw [if_neg n2, if_pos c1, if_pos c1]
      by_cases c2 : vX7_toDry (mz zr) (nI p) p ≤ 0
      · rw [if_neg (fun q => q.2 c2), if_pos c2]
      · rw [if_pos ⟨c1, c2⟩, if_neg c2]
    · rw [if_neg c1]
      by_cases c2 : zr (35 + 9 * p + 3) = 2
      · have n2 : ¬ (zr (35 + 9 * p + 3) = 1 ∨ ¬ zr (35 + 9 * p + 3) ≤ 2) := fun q => q.elim (by rw [c2]; decide) (fun q => q (by rw [c2]; decide))
        rw [if_neg n2, if_pos c2, if_neg c1, if_neg (fun q => c1 q.1)]
      · have y2 : zr (35 + 9 * p + 3) = 1 ∨ ¬ zr (35 + 9 * p + 3) ≤ 2 := by
          by_cases c3 : zr (35 + 9 * p + 3) = 1
          · exact Or.inl c3
          · refine Or.inr (fun q => ?_)
            obtain ⟨kd, hk, ek⟩ := (LZ_p h hp).2.2.2.1.2
            rw [ek] at c1 c2 c3 q
            have := (nI_leI (b := 2) (by omega) (by decide)).mp q
            rcases (show kd = 0 ∨ kd = 1 ∨ kd = 2 by omega) with rfl | rfl | rfl
            · exact c1 rfl
            · exact c3 rfl
            · exact c2 rfl
        rw [if_pos y2, if_neg c2]
  · rw [if_pos c0, if_neg c0]
theorem LZ_n {J2 n2 np2 nt2 x2 : Nat} {z2 : ZS} (h : LZn J n np nt x zr z) (h2 : LZn J2 n2 np2 nt2 x2 zr z2) : n2 = n := (nI_eq (by have := h2.1.1; omega) (by have := h.1.1; omega)).mp (h2.2.1.1.symm.trans h.2.1.1)
theorem IV_pt {q : PS} (h : IV J q zr z) (hz : LZn J n np nt x zr z) {p : Nat} (hp : p < n) : ∃ np nt, PT (20 * J) np nt q.1 zr p := by
  obtain ⟨n2, np2, nt2, hs, -, -, -, -, -, -, h7, -⟩ := h.2.1
  have e : n2 = n := (nI_eq (by have := hs.1.1; omega) (by have := hz.1.1; omega)).mp (hs.2.1.2.symm.trans hz.2.1.1)
  exact ⟨np2, nt2, h7 p (by omega)⟩
theorem IV_k2 {q : PS} (h : IV J q zr z) (hz : LZn J n np nt x zr z) {p : Nat} (hp : p < n) (hk : zr (35 + 9 * p + 4) = 1) : zr (35 + 9 * p + 3) = 0 ∨ zr (35 + 9 * p + 3) = 2 := by
  obtain ⟨np2, nt2, -, -, -, -, -, kd, k1, ⟨k2, k3⟩, k4, -⟩ := IV_pt h hz hp
  rcases SP_kiln k4 hk with rfl | rfl
  · exact Or.inl k3
  · exact Or.inr k3
theorem le94 (a : Int32) : a ≤ 94 ↔ a < 95 := by
  rw [Int32.le_iff_toInt_le, Int32.lt_iff_toInt_lt]
  show a.toInt ≤ 94 ↔ a.toInt < 95
  omega
theorem ge11 (a : Int32) : 11 ≤ a ↔ 10 < a := by
  rw [Int32.le_iff_toInt_le, Int32.lt_iff_toInt_lt]
  show (11 : Int) ≤ a.toInt ↔ (10 : Int) < a.toInt
  omega
theorem ht_e (a b : Int32) : a - 95 - 5 * (b + 1) = a - (100 + 5 * b) := by grind
theorem lThen_z (h : LZn J n np nt x zr z) {p : Nat} (hp : p < n) (hk : zr (35 + 9 * p + 3) = 0 ∨ zr (35 + 9 * p + 3) = 2) (heat : Int32) : lThen z.1 (z.2.1 p) heat = vX7_fired (mz zr) (nI p) heat p := by
  obtain ⟨-, -, k2, ⟨k3, -⟩, -, -, k6, -⟩ := LZ_p h hp
  have g4 : z.1 4 = zr 4 := h.2.2.1 4 (by decide)
  unfold lThen vX7_fired
  rw [k2, k3, g4]
  show _ = if heat + zr (35 + 9 * p + 2) ≤ zr 4 then (if zr (35 + 9 * p + 3) = 0 then (if heat < 95 then 0 else 1) else if 0 ≤ heat - (100 + 5 * zr (35 + 9 * p + 7)) then (if 10 < heat - (100 + 5 * zr (35 + 9 * p + 7)) then 1 else 3) else 2) else 4
  rcases hk with hk | hk
  · rw [if_pos hk, if_pos hk]
    simp only [le94]
  · have n0 : ¬ zr (35 + 9 * p + 3) = 0 := by rw [hk]; decide
    rw [if_neg n0, if_neg n0]
    rcases k6 with ⟨-, c, hc, e1, e2⟩ | ⟨e0, -⟩
    · rw [e1, e2, ← nI_1, ht_e]
      simp only [ge11]
    · exact absurd (Or.inl hk) e0
/-! what the face says of a pot -/
def lDue (g : Nat → Int32) (b : Nat → Int64) (p : Nat) : Int32 := if pt (b p) 3 = 0 then (if pt (b p) 4 = 24 then -5 else if 1 ≤ g 2 * pt (b p) 1 - pt (b p) 5 then (if 8 ≤ pt (b p) 4 then g 2 * pt (b p) 1 - pt (b p) 5 else (g 2 * pt (b p) 1 - pt (b p) 5) / 2 + ((g 2 * pt (b p) 1 - pt (b p) 5) - (g 2 * pt (b p) 1 - pt (b p) 5) / 2 * 2)) else 0) else 0
theorem A_of0 {q : PS} (h : IV J q zr z) (hz : LZn J n np nt x zr z) (hJ : J ≤ 100) {p : Nat} (hp : p < n) : vX6_of q (nI p) 0 = pt (z.2.1 p) 0 := by
  refine (Q_of h.2.1 (by omega) (nI p) 0).trans ?_
  unfold vX7_of
  have := hz.1.1
  rw [if_pos (isPo hz.2.1.1 hz.1.1 hp), cl_n (by omega), if_pos rfl]
  exact (LZ_p hz hp).1.symm
theorem A_of1 {q : PS} (h : IV J q zr z) (hz : LZn J n np nt x zr z) (hJ : J ≤ 100) {p : Nat} (hp : p < n) : vX6_of q (nI p) 1 = pt (z.2.1 p) 1 := by
  refine (Q_of h.2.1 (by omega) (nI p) 1).trans ?_
  unfold vX7_of
  have := hz.1.1
  rw [if_pos (isPo hz.2.1.1 hz.1.1 hp), cl_n (by omega), if_neg (show ¬ (1 : Int32) = 0 by decide), if_pos rfl]
  exact (LZ_p hz hp).2.1.1.symm
theorem A_of2 {q : PS} (h : IV J q zr z) (hz : LZn J n np nt x zr z) (hJ : J ≤ 100) {p : Nat} (hp : p < n) : vX6_of q (nI p) 2 = pt (z.2.1 p) 3 := by
  refine (Q_of h.2.1 (by omega) (nI p) 2).trans ?_
  unfold vX7_of
  have := hz.1.1
  rw [if_pos (isPo hz.2.1.1 hz.1.1 hp), cl_n (by omega), if_neg (show ¬ (2 : Int32) = 0 by decide), if_neg (show ¬ (2 : Int32) = 1 by decide), if_pos rfl]
  exact (LZ_p hz hp).2.2.2.1.1.symm
theorem A_of3 {q : PS} (h : IV J q zr z) (hz : LZn J n np nt x zr z) (hJ : J ≤ 100) {p : Nat} (hp : p < n) : vX6_of q (nI p) 3 = (if 24 ≤ pt (z.2.1 p) 4 then pt (z.2.1 p) 4 - 23 else 0 : Int32) := by
  refine (Q_of h.2.1 (by omega) (nI p) 3).trans ?_
  unfold vX7_of
  have := hz.1.1
  rw [if_pos (isPo hz.2.1.1 hz.1.1 hp), cl_n (by omega), if_neg (show ¬ (3 : Int32) = 0 by decide), if_neg (show ¬ (3 : Int32) = 1 by decide), if_neg (show ¬ (3 : Int32) = 2 by decide), if_pos rfl]
  rcases LZ_pl hz hp with ⟨h1, c, h2, h3, h4⟩ | ⟨h1, h2⟩ | ⟨h1, h2⟩
  · rw [h3, if_neg (lit24 c h2)]; exact h1
  · rw [h2]; exact h1
  · rw [h2]; exact h1
theorem A_of4 {q : PS} (h : IV J q zr z) (hz : LZn J n np nt x zr z) (hJ : J ≤ 100) {p : Nat} (hp : p < n) : vX6_of q (nI p) 4 = (if 24 ≤ pt (z.2.1 p) 4 then -6 else pt (z.2.1 p) 4 : Int32) := by
  refine (Q_of h.2.1 (by omega) (nI p) 4).trans ?_
  unfold vX7_of
  have := hz.1.1
  rw [if_pos (isPo hz.2.1.1 hz.1.1 hp), cl_n (by omega), if_neg (show ¬ (4 : Int32) = 0 by decide), if_neg (show ¬ (4 : Int32) = 1 by decide), if_neg (show ¬ (4 : Int32) = 2 by decide), if_neg (show ¬ (4 : Int32) = 3 by decide), if_pos rfl]
  show (if zr (35 + 9 * p + 4) = 0 then zr (35 + 9 * p + 5) else -6) = _
  rcases LZ_pl hz hp with ⟨h1, c, h2, h3, h4⟩ | ⟨h1, h2⟩ | ⟨h1, h2⟩
  · rw [if_pos h1, h3, if_neg (lit24 c h2), h4]
  · rw [h2, h1]; rfl
  · rw [h2, h1]; rfl
theorem A_of6 {q : PS} (h : IV J q zr z) (hz : LZn J n np nt x zr z) (hJ : J ≤ 100) {p : Nat} (hp : p < n) : vX6_of q (nI p) 6 = (if pt (z.2.1 p) 7 ≤ 0 then -6 else pt (z.2.1 p) 2 : Int32) := by
  refine (Q_of h.2.1 (by omega) (nI p) 6).trans ?_
  unfold vX7_of
  have := hz.1.1
  rw [if_pos (isPo hz.2.1.1 hz.1.1 hp), cl_n (by omega), if_neg (show ¬ (6 : Int32) = 0 by decide), if_neg (show ¬ (6 : Int32) = 1 by decide), if_neg (show ¬ (6 : Int32) = 2 by decide), if_neg (show ¬ (6 : Int32) = 3 by decide), if_neg (show ¬ (6 : Int32) = 4 by decide), if_neg (show ¬ (6 : Int32) = 5 by decide), if_pos rfl]
  show (if zr (35 + 9 * p + 8) ≤ 0 then -6 else zr (35 + 9 * p + 2)) = _
  rw [(LZ_p hz hp).2.2.1, (LZ_p hz hp).2.2.2.2.2.2.2.1]
theorem A_of7 {q : PS} (h : IV J q zr z) (hz : LZn J n np nt x zr z) (hJ : J ≤ 100) {p : Nat} (hp : p < n) : vX6_of q (nI p) 7 = (if pt (z.2.1 p) 6 ≤ 0 then -6 else pt (z.2.1 p) 6 - 1 : Int32) := by
  refine (Q_of h.2.1 (by omega) (nI p) 7).trans ?_
  unfold vX7_of
  have := hz.1.1
  rw [if_pos (isPo hz.2.1.1 hz.1.1 hp), cl_n (by omega), if_neg (show ¬ (7 : Int32) = 0 by decide), if_neg (show ¬ (7 : Int32) = 1 by decide), if_neg (show ¬ (7 : Int32) = 2 by decide), if_neg (show ¬ (7 : Int32) = 3 by decide), if_neg (show ¬ (7 : Int32) = 4 by decide), if_neg (show ¬ (7 : Int32) = 5 by decide), if_neg (show ¬ (7 : Int32) = 6 by decide), if_pos rfl]
  show zr (35 + 9 * p + 7) = _
  rcases (LZ_p hz hp).2.2.2.2.2.2.1 with ⟨-, c, hc, e1, e2⟩ | ⟨-, e1, e2⟩
  · rw [e1, e2, if_neg (fun q => by have := (nI_leI (b := 0) (by omega) (by decide)).mp q; omega), show (1 : Int32) = nI 1 from rfl, pk_sub (by omega), Nat.add_sub_cancel]
  · rw [e1, e2]; rfl
theorem A_of8 {q : PS} (h : IV J q zr z) (hz : LZn J n np nt x zr z) (hJ : J ≤ 100) {p : Nat} (hp : p < n) : vX6_of q (nI p) 8 = pt (z.2.1 p) 7 := by
  refine (Q_of h.2.1 (by omega) (nI p) 8).trans ?_
  unfold vX7_of
  have := hz.1.1
  rw [if_pos (isPo hz.2.1.1 hz.1.1 hp), cl_n (by omega), if_neg (show ¬ (8 : Int32) = 0 by decide), if_neg (show ¬ (8 : Int32) = 1 by decide), if_neg (show ¬ (8 : Int32) = 2 by decide), if_neg (show ¬ (8 : Int32) = 3 by decide), if_neg (show ¬ (8 : Int32) = 4 by decide), if_neg (show ¬ (8 : Int32) = 5 by decide), if_neg (show ¬ (8 : Int32) = 6 by decide), if_neg (show ¬ (8 : Int32) = 7 by decide), if_pos rfl]
  exact (LZ_p hz hp).2.2.2.2.2.2.2.1.symm
theorem A_of5 {q : PS} (h : IV J q zr z) (hz : LZn J n np nt x zr z) (hJ : J ≤ 100) {p : Nat} (hp : p < n) (h60 : ¬ pt (z.2.1 p) 5 = 60) : vX6_of q (nI p) 5 = pt (z.2.1 p) 5 := by
  refine (Q_of h.2.1 (by omega) (nI p) 5).trans ?_
  unfold vX7_of
  have := hz.1.1
  rw [if_pos (isPo hz.2.1.1 hz.1.1 hp), cl_n (by omega), if_neg (show ¬ (5 : Int32) = 0 by decide), if_neg (show ¬ (5 : Int32) = 1 by decide), if_neg (show ¬ (5 : Int32) = 2 by decide), if_neg (show ¬ (5 : Int32) = 3 by decide), if_neg (show ¬ (5 : Int32) = 4 by decide), if_pos rfl]
  show zr (35 + 9 * p + 6) = _
  obtain ⟨d, h1, h2, h3⟩ := (LZ_p hz hp).2.2.2.2.2.1
  rw [h2, h3]
  rcases Nat.lt_or_ge d 60 with q | q
  · rw [Nat.min_eq_left (by omega)]
  · exact absurd (h3.trans (by rw [Nat.min_eq_right q]; rfl)) h60
theorem A_why {q : PS} (h : IV J q zr z) (hz : LZn J n np nt x zr z) {p : Nat} (hp : p < n) : vX6_why q (nI p) = lWhy z.1 z.2.1 n p := by
  refine (Q_why h.2.1 (nI p)).trans ?_
  unfold vX7_why
  have := hz.1.1
  rw [if_pos (isPo hz.2.1.1 hz.1.1 hp), cl_n (by omega)]
  exact (lWhy_z hz hp).symm
theorem half_e {m : Nat} (hm : m < 1000) : nI m / 2 + (nI m - nI m / 2 * 2) = (nI m + 1) / 2 := by
  rw [show (2 : Int32) = nI 2 from rfl, pk_rem (by omega) (by decide) (by decide), pk_div (by omega) (by decide) (by decide), nI_add, nI_1, pk_div (by omega) (by decide) (by decide)]
  exact congrArg nI (by omega)
theorem A_dryIn {q : PS} (h : IV J q zr z) (hz : LZn J n np nt x zr z) {p : Nat} (hp : p < n) : vX6_dryIn q (nI p) = lDue z.1 z.2.1 p := by
  refine (Q_dryIn h.2.1 (nI p)).trans ?_
  have := hz.1.1
  obtain ⟨a, d, ha, hd, e1, e2, e3, e4⟩ := dry_z hz hp
  unfold vX7_dryIn lDue
  rw [if_pos (isPo hz.2.1.1 hz.1.1 hp), cl_n (by omega), (LZ_p hz hp).2.2.2.1.1, e1, e4]
  show (if zr (35 + 9 * p + 3) = 0 then (if zr (35 + 9 * p + 4) = 0 then (if 0 < zr 2 * zr (35 + 9 * p + 1) - zr (35 + 9 * p + 6) then (if 8 ≤ zr (35 + 9 * p + 5) then zr 2 * zr (35 + 9 * p + 1) - zr (35 + 9 * p + 6) else (zr 2 * zr (35 + 9 * p + 1) - zr (35 + 9 * p + 6) + 1) / 2) else 0) else -5) else 0) = _
  rw [e2, e3]
  by_cases c0 : zr (35 + 9 * p + 3) = 0
  · rw [if_pos c0, if_pos c0]
    rcases LZ_pl hz hp with ⟨h1, c, h2, h3, h4⟩ | ⟨h1, h2⟩ | ⟨h1, h2⟩
    · rw [if_pos h1, h3, h4, if_neg (show ¬ nI c = 24 from fun z => by have := (nI_eq (b := 24) (by omega) (by decide)).mp z; omega)]
      rcases Nat.lt_or_ge d a with g | g
      · have em : min d 60 = d := by omega
        rw [em, pk_sub (by omega), if_pos (show (0 : Int32) < nI (a - d) from (nI_ltI (a := 0) (by decide) (by omega)).mpr (by omega)), if_pos (show (1 : Int32) ≤ nI (a - d) from (nI_leI (a := 1) (by decide) (by omega)).mpr (by omega)), half_e (by omega)]
      · have n1 : ¬ (0 : Int32) < nI a - nI d := fun z => by
          rw [Int32.lt_iff_toInt_lt, pk_sub_toInt (by omega) (by omega)] at z
          have e : (0 : Int32).toInt = 0 := rfl
          omega
        have n2 : ¬ (1 : Int32) ≤ nI a - nI (min d 60) := fun z => by
          rw [Int32.le_iff_toInt_le, pk_sub_toInt (by omega) (by omega)] at z
          have e : (1 : Int32).toInt = 1 := rfl
          omega
        rw [if_neg n1, if_neg n2]
    · rw [h2, h1]; rfl
    · exfalso
      obtain ⟨np2, nt2, -, -, -, -, -, kd, k1, ⟨k2, k3⟩, k4, -⟩ := IV_pt h hz hp
      rw [k3] at c0
      have hk := (nI_eq (b := 0) (by omega) (by decide)).mp c0
      rcases k4 with ⟨e, -⟩ | ⟨e, -⟩ | ⟨-, -, e⟩
      · rw [h1] at e; exact absurd e (by decide)
      · rw [h1] at e; exact absurd e (by decide)
      · omega
  · rw [if_neg c0, if_neg c0]
end LPo
