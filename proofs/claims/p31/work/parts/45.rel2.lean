/-! pots by their numbers -/
theorem mN_n {y : MS} {n : Nat} (h : y.1 0 7 = nI n) (hn : n ≤ 20) : mN y = n := by
  unfold mN; rw [h]; exact cl_n (by omega)
section PR
variable {K n np nt : Nat} {w : WS} {z : Nat → Int32}
theorem pt_size (h : WRpt K n np nt w z) (hn : n ≤ 20) {p : Nat} (hp : p < n) : rAt 20 (w.1 3) (nI p) = z (35 + 9 * p + 1) := by rw [rAt_n (by omega) (by omega)]; exact (h p hp).2.1.1
theorem pt_pupil (h : WRpt K n np nt w z) (hn : n ≤ 20) {p : Nat} (hp : p < n) : rAt 20 (w.1 2) (nI p) = z (35 + 9 * p) := by rw [rAt_n (by omega) (by omega)]; exact (h p hp).1.1
theorem pt_fault (h : WRpt K n np nt w z) (hn : n ≤ 20) {p : Nat} (hp : p < n) : rAt 20 (w.1 4) (nI p) = z (35 + 9 * p + 2) := by rw [rAt_n (by omega) (by omega)]; exact (h p hp).2.2.1
theorem pt_dried (h : WRpt K n np nt w z) (hn : n ≤ 20) {p : Nat} (hp : p < n) : rAt 20 (w.1 7) (nI p) = z (35 + 9 * p + 6) := by rw [rAt_n (by omega) (by omega)]; exact (h p hp).2.2.2.1.1
theorem pt_fired (h : WRpt K n np nt w z) (hn : n ≤ 20) {p : Nat} (hp : p < n) : rAt 20 (w.1 9) (nI p) = z (35 + 9 * p + 8) := by rw [rAt_n (by omega) (by omega)]; exact (h p hp).2.2.2.2.1.1
theorem pt_kind (h : WRpt K n np nt w z) (hn : n ≤ 20) {p : Nat} (hp : p < n) : rAt 20 (w.1 5) (nI p) = z (35 + 9 * p + 3) := by
  rw [rAt_n (by omega) (by omega)]
  obtain ⟨kd, h1, ⟨h2, h3⟩, -⟩ := (h p hp).2.2.2.2.2
  rw [h2, h3]
theorem pt_isk (h : WRpt K n np nt w z) (hn : n ≤ 20) {p : Nat} (hp : p < n) (x : Int32) : cKind w (nI p) x = decide (z (35 + 9 * p + 3) = x) := by
  unfold cKind; rw [pt_kind h hn hp]
theorem lit24 : ∀ q, q < 24 → ¬ (24 : Int32) ≤ nI q := fun q hq z => by have := (nI_leI (a := 24) (b := q) (by decide) (by omega)).mp z; omega
theorem pt_rack (h : WRpt K n np nt w z) (hn : n ≤ 20) {p : Nat} (hp : p < n) : cRack w (nI p) = decide (z (35 + 9 * p + 4) = 0) := by
  unfold cRack
  rw [rAt_n (by omega) (by omega)]
  obtain ⟨kd, h1, -, h4, -⟩ := (h p hp).2.2.2.2.2
  rcases h4 with ⟨a, q, b, c, -⟩ | ⟨a, b, -⟩ | ⟨a, b, -⟩
  · rw [a, c, decide_eq_true (lit24 q b), decide_eq_true rfl]
  · rw [a, b]; rfl
  · rw [a, b]; rfl
theorem pt_kiln (h : WRpt K n np nt w z) (hn : n ≤ 20) {p : Nat} (hp : p < n) : cKiln w (nI p) = decide (z (35 + 9 * p + 4) = 1) := by
  unfold cKiln
  rw [rAt_n (by omega) (by omega)]
  obtain ⟨kd, h1, -, h4, -⟩ := (h p hp).2.2.2.2.2
  rcases h4 with ⟨a, q, b, c, -⟩ | ⟨a, b, -⟩ | ⟨a, b, -⟩
  · rw [a, c, decide_eq_false (fun z => by have := (nI_eq (a := q) (b := 24) (by omega) (by decide)).mp z; omega)]; rfl
  · rw [a, b]; rfl
  · rw [a, b]; rfl
theorem pt_beside (h : WRpt K n np nt w z) (hn : n ≤ 20) {p : Nat} (hp : p < n) (h0 : z (35 + 9 * p + 4) = 0) : cBeside w (nI p) = decide (¬ 8 ≤ z (35 + 9 * p + 5)) ∧ rAt 20 (w.1 6) (nI p) = z (35 + 9 * p + 5) := by
  unfold cBeside
  rw [rAt_n (by omega) (by omega)]
  obtain ⟨kd, h1, -, h4, -⟩ := (h p hp).2.2.2.2.2
  rcases h4 with ⟨a, q, b, c, e⟩ | ⟨a, b, -⟩ | ⟨a, b, -⟩
  · rw [c, e]; exact ⟨rfl, rfl⟩
  · rw [h0] at a; exact absurd a (by decide)
  · rw [h0] at a; exact absurd a (by decide)
theorem tk_n (h : WRpt K n np nt w z) (hn : n ≤ 20) : ∀ m, m ≤ n → cTk w m = mk (fun j => zTk z (nI j) m) 24
  | 0, _ => ((mk_0 (P := fun j => zTk z (nI j) 0) (n := 24) (by decide)).mpr (fun _ _ => rfl)).symm
  | m + 1, hm => by
    have ih := tk_n h hn m (by omega)
    obtain ⟨kd, h1, -, h4, -⟩ := (h m (by omega)).2.2.2.2.2
    show (if 24 ≤ rAt 20 (w.1 6) (nI m) then _ else _) = _
    rw [rAt_n (by omega) (by omega)]
    rcases h4 with ⟨a, q, b, c, e⟩ | ⟨a, b, -⟩ | ⟨a, b, -⟩
    · rw [c, if_neg (lit24 q b), ih, mk_set _ (by decide) b]
      refine mk_cong (fun j hj => ?_)
      show _ = (zTk z (nI j) m || (decide (z (35 + 9 * m + 4) = 0) && decide (z (35 + 9 * m + 5) = nI j)))
      rw [a, e, decide_eq_true rfl, Bool.true_and, Bool.or_comm]
      congr 1
      by_cases hjq : j = q
      · subst hjq; simp
      · rw [decide_eq_false hjq, decide_eq_false (fun z => hjq ((nI_eq (by omega) (by omega)).mp z).symm)]
    · rw [b, if_pos (by decide), ih]
      refine mk_cong (fun j hj => ?_)
      show _ = (zTk z (nI j) m || (decide (z (35 + 9 * m + 4) = 0) && _))
      rw [a, decide_eq_false (by decide), Bool.false_and, Bool.or_false]
    · rw [b, if_pos (by decide), ih]
      refine mk_cong (fun j hj => ?_)
      show _ = (zTk z (nI j) m || (decide (z (35 + 9 * m + 4) = 0) && _))
      rw [a, decide_eq_false (by decide), Bool.false_and, Bool.or_false]
theorem zTk_no {m : Nat} {pl : Int32} (h : ∀ p, p < m → z (35 + 9 * p + 4) = 0 → z (35 + 9 * p + 5) ≠ pl) : zTk z pl m = false := by
  induction m with
  | zero => rfl
  | succ m ih =>
    show (zTk z pl m || (decide (z (35 + 9 * m + 4) = 0) && decide (z (35 + 9 * m + 5) = pl))) = false
    rw [ih (fun p hp => h p (by omega)), Bool.false_or]
    by_cases e : z (35 + 9 * m + 4) = 0
    · rw [decide_eq_false (h m (by omega) e), Bool.and_false]
    · rw [decide_eq_false e, Bool.false_and]
theorem tk_ct {N : Nat} (hN : N = 24) (h : WRpt K n np nt w z) (hd : WRdi n z) : ∀ m, m ≤ n → fb_ct (fun j => zTk z (nI j) m) N = fb_ct (fun p => decide (z (35 + 9 * p + 4) = 0)) m
  | 0, _ => fb_ct_zero.mpr (fun _ _ => rfl)
  | m + 1, hm => by
    have ih := tk_ct hN h hd m (by omega)
    obtain ⟨kd, h1, -, h4, -⟩ := (h m (by omega)).2.2.2.2.2
    rw [fb_ct_succ (fun p => decide (z (35 + 9 * p + 4) = 0)) m, ← ih]
    by_cases h0 : z (35 + 9 * m + 4) = 0
    · rcases h4 with ⟨a, q, b, c, e⟩ | ⟨a, b, -⟩ | ⟨a, b, -⟩
      · have hno : zTk z (nI q) m = false := zTk_no (fun p hp hz => by rw [← e]; exact hd p m (by omega) (by omega) (by omega) hz h0)
        have := fb_ct_upd (fun j => zTk z (nI j) m) true (i := q) (n := N) (by omega)
        rw [hno] at this
        rw [decide_eq_true h0, if_pos rfl]
        rw [if_neg (by decide), if_pos rfl] at this
        rw [← this, Nat.add_zero]
        refine fb_ct_cong (fun j hj => ?_)
        show (zTk z (nI j) m || (decide (z (35 + 9 * m + 4) = 0) && decide (z (35 + 9 * m + 5) = nI j))) = _
        rw [decide_eq_true h0, Bool.true_and, e]
        by_cases hjq : j = q
        · subst hjq; rw [if_pos rfl, decide_eq_true rfl, Bool.or_true]
        · rw [if_neg hjq, decide_eq_false (fun z => hjq ((nI_eq (by omega) (by omega)).mp z).symm), Bool.or_false]
      · rw [h0] at a; exact absurd a (by decide)
      · rw [h0] at a; exact absurd a (by decide)
    · rw [decide_eq_false h0, if_neg (by decide), Nat.add_zero]
      refine fb_ct_cong (fun j hj => ?_)
      show (zTk z (nI j) m || (decide (z (35 + 9 * m + 4) = 0) && decide (z (35 + 9 * m + 5) = nI j))) = _
      rw [decide_eq_false h0, Bool.false_and, Bool.or_false]
theorem fnN_ext {P Q : Nat → Bool} : ∀ {n i : Nat}, (∀ j, i ≤ j → j < i + n → P j = Q j) → fnN P i n = fnN Q i n
  | 0, _, _ => rfl
  | n + 1, i, h => by
    unfold fnN
    rw [h i (by omega) (by omega), fnN_ext (n := n) (i := i + 1) (fun j h1 h2 => h j (by omega) (by omega))]
theorem fnN_more {P : Nat → Bool} : ∀ {n i : Nat} (k : Nat), (∃ j, i ≤ j ∧ j < i + n ∧ P j = false) → fnN P i (n + k) = fnN P i n
  | 0, i, k, h => by obtain ⟨j, h1, h2, -⟩ := h; omega
  | n + 1, i, k, h => by
    rw [show n + 1 + k = (n + k) + 1 by omega]
    by_cases hp : P i = true
    · rw [show fnN P i (n + k + 1) = fnN P (i + 1) (n + k) from if_pos hp, show fnN P i (n + 1) = fnN P (i + 1) n from if_pos hp]
      obtain ⟨j, h1, h2, h3⟩ := h
      have hne : i ≠ j := fun e => by rw [e, h3] at hp; cases hp
      exact fnN_more k ⟨j, by omega, by omega, h3⟩
    · rw [show fnN P i (n + k + 1) = i from if_neg hp, show fnN P i (n + 1) = i from if_neg hp]
end PR
theorem place_n {K n np nt : Nat} {w : WS} {y : MS} (h : WRpt K n np nt w (y.1 0)) (hn : n ≤ 20) (h2 : w.2 2 = nI n) (h7 : y.1 0 7 = nI n) : cPlace (cTaken w) = zPlace y := by
  have hm := mN_n h7 hn
  have hw : wN w = n := by unfold wN; rw [h2]; exact nI_clamp (by omega)
  unfold cPlace zPlace cTaken
  rw [hw, tk_n h hn n (Nat.le_refl _)]
  have e : fnN (cPlaceP (mk (fun j => zTk (y.1 0) (nI j) n) 24)) 0 23 = fnN (zFreeP y) 0 23 := fnN_ext (fun j _ hj => by
    unfold cPlaceP zFreeP
    rw [hm]
    have := mk_tst (fun j => zTk (y.1 0) (nI j) n) (n := 24) (i := j) (by decide) (by omega)
    cases a : zTk (y.1 0) (nI j) n
    · exact decide_eq_false (fun z => z (this.mpr a))
    · exact decide_eq_true (fun z => by have := this.mp z; rw [a] at this; cases this))
  rw [e]
  obtain ⟨j, hj, hf⟩ := zFree_ex y (by rw [hm]; exact hn)
  exact congrArg nI (fnN_more (n := 21) 2 ⟨j, by omega, by omega, hf⟩)
theorem free_n {K n np nt : Nat} {w : WS} {y : MS} (h : WRpt K n np nt w (y.1 0)) (hd : WRdi n (y.1 0)) (hn : n ≤ 20) (h2 : w.2 2 = nI n) (h7 : y.1 0 7 = nI n) : cFree w = vX7_freePlaces y ∧ ∃ c, 4 ≤ c ∧ c ≤ 24 ∧ vX7_freePlaces y = nI c := by
  have hm := mN_n h7 hn
  have hw : wN w = n := by unfold wN; rw [h2]; exact nI_clamp (by omega)
  have hle := fb_ct_le (fun p => decide ((y.1 0) (35 + 9 * p + 4) = 0)) n
  have e1 : vX7_freePlaces y = nI (24 - fb_ct (fun p => decide ((y.1 0) (35 + 9 * p + 4) = 0)) n) := by
    unfold vX7_freePlaces zPotsAt
    rw [hm, one_mk _ hn]
    show nI 24 - _ = _
    rw [pk_sub (show fb_ct (zPA (y.1 0) 0) n ≤ 24 by exact Nat.le_trans hle (by omega))]
    rfl
  refine ⟨?_, _, by omega, by omega, e1⟩
  rw [e1]
  unfold cFree cTaken
  rw [hw, tk_n h hn n (Nat.le_refl _), bit_mk _ (by decide), tk_ct rfl h hd n (Nat.le_refl _)]
  show nI 24 - _ = _
  rw [pk_sub (by omega)]
