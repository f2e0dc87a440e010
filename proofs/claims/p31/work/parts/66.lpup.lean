/-! what the law reads off its pupils and bookings is what the reference reads off its row -/
theorem fnM_cs {P : Nat → Bool} : ∀ {n i : Nat}, (fnM P i n = -1 ∧ ∀ j, i ≤ j → j < i + n → P j = false) ∨ ∃ j, i ≤ j ∧ j < i + n ∧ fnM P i n = nI j ∧ P j = true ∧ ∀ m, i ≤ m → m < j → P m = false
  | 0, i => Or.inl ⟨rfl, fun j h1 h2 => by omega⟩
  | n + 1, i => by
    by_cases a : P i = true
    · exact Or.inr ⟨i, by omega, by omega, if_pos a, a, fun m h1 h2 => by omega⟩
    · have a' : P i = false := Bool.eq_false_iff.mpr a
      rcases fnM_cs (P := P) (n := n) (i := i + 1) with ⟨h1, h2⟩ | ⟨j, h1, h2, h3, h4, h5⟩
      · refine Or.inl ⟨(if_neg a).trans h1, fun j g1 g2 => ?_⟩
        by_cases e : j = i
        · subst e; exact a'
        · exact h2 j (by omega) (by omega)
      · refine Or.inr ⟨j, by omega, by omega, (if_neg a).trans h3, h4, fun m g1 g2 => ?_⟩
        by_cases e : m = i
        · subst e; exact a'
        · exact h5 m (by omega) (by omega)
theorem lWh_cs (k0 : Nat → Int32) (q : Int32) (a : Nat) : (lWh k0 q a = -1 ∧ ∀ w, w < 5 → k0 (6 * w + a) ≠ q + 1) ∨ ∃ w, w < 5 ∧ lWh k0 q a = nI w ∧ k0 (6 * w + a) = q + 1 := by
  rcases fnM_cs (P := fun j => decide (k0 (6 * j + a) = q + 1)) (n := 5) (i := 0) with ⟨h1, h2⟩ | ⟨j, -, h2, h3, h4, -⟩
  · exact Or.inl ⟨h1, fun w hw => of_decide_eq_false (h2 w (by omega) (by omega))⟩
  · exact Or.inr ⟨j, by omega, h3, of_decide_eq_true h4⟩
theorem BK_q {np : Nat} {c b : Int32} (h : BK np c b) (hnp : np ≤ 10) {i : Nat} (hi : i < 100) : c = nI i + 1 ↔ b = nI i := by
  rw [nI_1]
  rcases h with ⟨h1, h2⟩ | ⟨q, h1, h2, h3⟩
  · rw [h1, h2]
    exact ⟨fun e => by have := (nI_eq (a := 0) (by decide) (by omega)).mp e; omega, fun e => absurd e.symm (i6_n (by omega))⟩
  · rw [h2, h3, nI_eq (by omega) (by omega), nI_eq (by omega) (by omega)]
    omega
theorem BK_p {np : Nat} {c b : Int32} (h : BK np c b) (hnp : np ≤ 10) : 0 < c ↔ 0 ≤ b := by
  rcases h with ⟨h1, h2⟩ | ⟨q, h1, h2, h3⟩
  · rw [h1, h2]; decide
  · rw [h2, h3]
    exact ⟨fun _ => nI_pos' (by omega), fun _ => (nI_ltI (a := 0) (by decide) (by omega)).mpr (by omega)⟩
section LPu
variable {J n np nt x : Nat} {zr : Nat → Int32} {z : ZS} {q : PS}
theorem lWh_z (h : LZn J n np nt x zr z) {i : Nat} (hi : i < np) {a : Nat} (ha : a < 6) : (lWh z.2.2.1 (nI i) a = -1 ∧ zWh zr (nI i) a 5 = -6) ∨ ∃ w w2, w < 5 ∧ w2 < 5 ∧ lWh z.2.2.1 (nI i) a = nI w ∧ zr (215 + 21 * w + a) = nI i ∧ zWh zr (nI i) a 5 = nI w2 ∧ zr (215 + 21 * w2 + a) = nI i := by
  have hnp := h.1.2.1
  have hk := h.2.2.2.2.1.1
  have e : ∀ w, w < 5 → (z.2.2.1 (6 * w + a) = nI i + 1 ↔ zr (215 + 21 * w + a) = nI i) := fun w hw => BK_q (hk w a hw ha) hnp (by omega)
  rcases lWh_cs z.2.2.1 (nI i) a with ⟨h1, h2⟩ | ⟨w, h1, h2, h3⟩
  · rcases zWh_cs (z := zr) (q := nI i) (j := a) 5 with ⟨g1, g2⟩ | ⟨w2, g1, g2, g3⟩
    · exact Or.inl ⟨h1, g1⟩
    · exact absurd ((e w2 g1).mpr g3) (h2 w2 g1)
  · rcases zWh_cs (z := zr) (q := nI i) (j := a) 5 with ⟨g1, g2⟩ | ⟨w2, g1, g2, g3⟩
    · exact absurd ((e w h1).mp h3) (g2 w h1)
    · exact Or.inr ⟨w, w2, h1, g1, h2, (e w h1).mp h3, g2, g3⟩
theorem lWh_neg (h : LZn J n np nt x zr z) {i : Nat} (hi : i < np) {a : Nat} (ha : a < 6) : lWh z.2.2.1 (nI i) a < 0 ↔ zWh zr (nI i) a 5 < 0 := by
  rcases lWh_z h hi ha with ⟨h1, h2⟩ | ⟨w, w2, h1, h2, h3, h4, h5, h6⟩
  · rw [h1, h2]; decide
  · rw [h3, h5]
    exact ⟨fun e => absurd e (nI_pos (by omega)), fun e => absurd e (nI_pos (by omega))⟩
theorem IV_un (h : IV J q zr z) : WRun zr := by
  obtain ⟨n2, np2, nt2, -, -, -, -, -, -, hu, -⟩ := h.2.1
  exact hu
theorem lWh_eq (h0 : IV J q zr z) (h : LZn J n np nt x zr z) {i : Nat} (hi : i < np) {a : Nat} (ha : a < 6) (hn : ¬ lWh z.2.2.1 (nI i) a < 0) : ∃ w, w < 5 ∧ lWh z.2.2.1 (nI i) a = nI w ∧ zWh zr (nI i) a 5 = nI w ∧ zr (215 + 21 * w + a) = nI i := by
  have hnp := h.1.2.1
  rcases lWh_z h hi ha with ⟨h1, h2⟩ | ⟨w, w2, h1, h2, h3, h4, h5, h6⟩
  · rw [h1] at hn; exact absurd (by decide) hn
  · have e := IV_un h0 a w w2 (by omega) h1 h2 (h4.trans h6.symm) (by rw [h4]; exact i6_n (by omega))
    subst e
    exact ⟨w, h1, h3, h5, h4⟩
/-! what the face says of a pupil -/
theorem B_0 (h : IV J q zr z) (hz : LZn J n np nt x zr z) {i : Nat} (hi : i < np) : vX6_ofPupil q (nI i) 0 = (if 0 ≤ lWh z.2.2.1 (nI i) 0 then lWh z.2.2.1 (nI i) 0 else -6 : Int32) := by
  refine (Q_ofPupil h.2.1 (nI i) 0).trans ?_
  unfold vX7_ofPupil
  rw [if_pos (isPu hz.2.1.2.1 hz.1.2.1 hi), if_pos rfl]
  show zWh zr (nI i) 0 5 = _
  by_cases c : lWh z.2.2.1 (nI i) 0 < 0
  · rw [if_neg (fun e => Int32.not_lt.mpr e c)]
    exact (zWh_6 (by decide)).mpr ((lWh_neg hz hi (by decide)).mp c)
  · obtain ⟨w, h1, h2, h3, -⟩ := lWh_eq h hz hi (by decide) c
    rw [h2, h3, if_pos (nI_pos' (by omega))]
def lP0 (b : Nat → Int64) (i : Int32) : Nat → Bool := fun p => decide (pt (b p) 0 = i)
def lPk (b : Nat → Int64) (i kd : Int32) : Nat → Bool := fun p => decide (pt (b p) 0 = i) && decide (pt (b p) 3 = kd)
theorem B_1 (h : IV J q zr z) (hz : LZn J n np nt x zr z) {i : Nat} (hi : i < np) : vX6_ofPupil q (nI i) 1 = mk (lP0 z.2.1 (nI i)) n := by
  refine (Q_ofPupil h.2.1 (nI i) 1).trans ?_
  unfold vX7_ofPupil
  rw [if_pos (isPu hz.2.1.2.1 hz.1.2.1 hi), if_neg (show ¬ (1 : Int32) = 0 by decide), if_pos rfl]
  unfold zPotsOf
  rw [LZ_N hz]
  refine mk_cong (fun p hp => ?_)
  show (decide (zr (35 + 9 * p) = nI i) && (decide ((-6 : Int32) < 0) || decide (zr (35 + 9 * p + 3) = -6))) = decide (pt (z.2.1 p) 0 = nI i)
  rw [(LZ_p hz hp).1, show decide ((-6 : Int32) < 0) = true by decide, Bool.true_or, Bool.and_true]
theorem B_k (hz : LZn J n np nt x zr z) (i kd : Int32) (hk : decide (kd < 0) = false) : zPotsOf (mz zr) i kd = mk (lPk z.2.1 i kd) n := by
  unfold zPotsOf
  rw [LZ_N hz]
  refine mk_cong (fun p hp => ?_)
  show (decide (zr (35 + 9 * p) = i) && (decide (kd < 0) || decide (zr (35 + 9 * p + 3) = kd))) = (decide (pt (z.2.1 p) 0 = i) && decide (pt (z.2.1 p) 3 = kd))
  rw [(LZ_p hz hp).1, (LZ_p hz hp).2.2.2.1.1, hk, Bool.false_or]
theorem B_2 (h : IV J q zr z) (hz : LZn J n np nt x zr z) {i : Nat} (hi : i < np) : vX6_ofPupil q (nI i) 2 = mk (lPk z.2.1 (nI i) 3) n := by
  refine (Q_ofPupil h.2.1 (nI i) 2).trans ?_
  unfold vX7_ofPupil
  rw [if_pos (isPu hz.2.1.2.1 hz.1.2.1 hi), if_neg (show ¬ (2 : Int32) = 0 by decide), if_neg (show ¬ (2 : Int32) = 1 by decide), if_pos rfl]
  exact B_k hz _ 3 (by decide)
theorem B_3 (h : IV J q zr z) (hz : LZn J n np nt x zr z) {i : Nat} (hi : i < np) : vX6_ofPupil q (nI i) 3 = mk (lPk z.2.1 (nI i) 4) n := by
  refine (Q_ofPupil h.2.1 (nI i) 3).trans ?_
  unfold vX7_ofPupil
  rw [if_pos (isPu hz.2.1.2.1 hz.1.2.1 hi), if_neg (show ¬ (3 : Int32) = 0 by decide), if_neg (show ¬ (3 : Int32) = 1 by decide), if_neg (show ¬ (3 : Int32) = 2 by decide), if_pos rfl]
  exact B_k hz _ 4 (by decide)
theorem B_4 (h : IV J q zr z) (hz : LZn J n np nt x zr z) {i : Nat} (hi : i < np) : vX6_ofPupil q (nI i) 4 = z.2.2.2 (2 * i + 1) := by
  refine (Q_ofPupil h.2.1 (nI i) 4).trans ?_
  unfold vX7_ofPupil
  have := hz.1.2.1
  rw [if_pos (isPu hz.2.1.2.1 hz.1.2.1 hi), if_neg (show ¬ (4 : Int32) = 0 by decide), if_neg (show ¬ (4 : Int32) = 1 by decide), if_neg (show ¬ (4 : Int32) = 2 by decide), if_neg (show ¬ (4 : Int32) = 3 by decide), if_pos rfl, cl_n (by omega)]
  exact ((hz.2.2.2.1 i (by omega)).2).symm
def lBk (k0 : Nat → Int32) (i : Int32) : Nat → Bool := fun m => decide (k0 m = i + 1)
theorem ct30 (P : Nat → Bool) : fb_ct P 30 = fb_ct (fun a => P a) 6 + (fb_ct (fun a => P (6 + a)) 6 + (fb_ct (fun a => P (12 + a)) 6 + (fb_ct (fun a => P (18 + a)) 6 + fb_ct (fun a => P (24 + a)) 6))) := by
  rw [show (30 : Nat) = 6 + (6 + (6 + (6 + 6))) from rfl, fb_ct_split, fb_ct_split, fb_ct_split, fb_ct_split]
  have e1 : (fun k => P (6 + (6 + k))) = fun k => P (12 + k) := funext fun k => by rw [show 6 + (6 + k) = 12 + k by omega]
  have e2 : (fun k => P (6 + (6 + (6 + k)))) = fun k => P (18 + k) := funext fun k => by rw [show 6 + (6 + (6 + k)) = 18 + k by omega]
  have e3 : (fun k => P (6 + (6 + (6 + (6 + k))))) = fun k => P (24 + k) := funext fun k => by rw [show 6 + (6 + (6 + (6 + k))) = 24 + k by omega]
  rw [e1, e2, e3]
theorem ct_row (hz : LZn J n np nt x zr z) {i : Nat} (hi : i < np) {w o1 o2 : Nat} (hw : w < 5) (h1 : o1 = 21 * w) (h2 : o2 = 6 * w) : fb_ct (fun a => zBkP zr (nI i) (o1 + a)) 21 = fb_ct (fun a => lBk z.2.2.1 (nI i) (o2 + a)) 6 := by
  subst h1; subst h2
  have hnp := hz.1.2.1
  rw [show (21 : Nat) = 6 + 15 from rfl, fb_ct_split]
  have e0 : fb_ct (fun k => zBkP zr (nI i) ((6 + 15) * w + (6 + k))) 15 = 0 := fb_ct_zero.mpr (fun k hk => decide_eq_false (fun e => by
    have e1 := hz.2.2.2.2.1.2 w (6 + k) hw (by omega) (by omega)
    rw [show 215 + ((6 + 15) * w + (6 + k)) = 215 + 21 * w + (6 + k) by omega, e1] at e
    exact absurd e.symm (i6_n (by omega))))
  rw [e0]
  refine fb_ct_cong (fun a ha => ?_)
  show decide (zr (215 + ((6 + 15) * w + a)) = nI i) = decide (z.2.2.1 (6 * w + a) = nI i + 1)
  rw [show 215 + ((6 + 15) * w + a) = 215 + 21 * w + a by omega]
  exact decide_eq_decide.mpr (BK_q (hz.2.2.2.2.1.1 w a hw ha) hnp (by omega)).symm
theorem B_5 (h : IV J q zr z) (hz : LZn J n np nt x zr z) {i : Nat} (hi : i < np) : vX6_ofPupil q (nI i) 5 = cnI (lBk z.2.2.1 (nI i)) 30 := by
  refine (Q_ofPupil h.2.1 (nI i) 5).trans ?_
  unfold vX7_ofPupil
  rw [if_pos (isPu hz.2.1.2.1 hz.1.2.1 hi), if_neg (show ¬ (5 : Int32) = 0 by decide), if_neg (show ¬ (5 : Int32) = 1 by decide), if_neg (show ¬ (5 : Int32) = 2 by decide), if_neg (show ¬ (5 : Int32) = 3 by decide), if_neg (show ¬ (5 : Int32) = 4 by decide), if_pos rfl]
  show cnI (zBkP zr (nI i)) 105 = _
  rw [cnI_ct, cnI_ct, ct5, ct30]
  have e0 := ct_row hz hi (w := 0) (o1 := 0) (o2 := 0) (by decide) rfl rfl
  have e1 := ct_row hz hi (w := 1) (o1 := 21) (o2 := 6) (by decide) rfl rfl
  have e2 := ct_row hz hi (w := 2) (o1 := 42) (o2 := 12) (by decide) rfl rfl
  have e3 := ct_row hz hi (w := 3) (o1 := 63) (o2 := 18) (by decide) rfl rfl
  have e4 := ct_row hz hi (w := 4) (o1 := 84) (o2 := 24) (by decide) rfl rfl
  simp only [Nat.zero_add] at e0
  rw [e0, e1, e2, e3, e4]
/-! the first night that is free -/
def okL (k0 : Nat → Int32) (i : Int32) (a w : Nat) : Prop := a < 6 → ¬ 0 < k0 (6 * w + a) ∧ lWh k0 i a < 0
theorem ok_z (hz : LZn J n np nt x zr z) {i : Nat} (hi : i < np) {a w : Nat} (ha : a < 21) (hw : w < 5) : okL z.2.2.1 (nI i) a w ↔ ¬ 0 ≤ zr (215 + 21 * w + a) ∧ ¬ 0 ≤ zWh zr (nI i) a 5 := by
  have hnp := hz.1.2.1
  by_cases h6 : a < 6
  · have e1 := BK_p (hz.2.2.2.2.1.1 w a hw h6) hnp
    have e2 := lWh_neg hz hi h6
    unfold okL
    constructor
    · intro h
      obtain ⟨h1, h2⟩ := h h6
      exact ⟨fun q => h1 (e1.mpr q), fun q => Int32.not_lt.mpr q (e2.mp h2)⟩
    · intro h _
      exact ⟨fun q => h.1 (e1.mp q), e2.mpr (Int32.not_le.mp h.2)⟩
  · refine ⟨fun _ => ⟨?_, ?_⟩, fun _ h => absurd h h6⟩
    · rw [hz.2.2.2.2.1.2 w a hw (by omega) ha]; decide
    · rcases zWh_cs (z := zr) (q := nI i) (j := a) 5 with ⟨g1, -⟩ | ⟨w2, g1, g2, g3⟩
      · rw [g1]; decide
      · rw [hz.2.2.2.2.1.2 w2 a g1 (by omega) ha] at g3
        exact absurd g3.symm (i6_n (by omega))
theorem zFi_no {y : MS} {u what : Int32} {a : Nat} {f0 : Int32} : ∀ m, m ≤ 5 → (∀ w, 5 - m ≤ w → w < 5 → ¬ (¬ 0 ≤ y.1 0 (215 + 21 * w + a) ∧ ¬ 0 ≤ zWh (y.1 0) u a 5)) → zFi y u what a f0 m = f0
  | 0, _, _ => rfl
  | m + 1, hm, hno => by
    have ih := zFi_no (y := y) (u := u) (what := what) (a := a) (f0 := f0) m (by omega) (fun w h1 h2 => hno w (by omega) h2)
    have h := hno (4 - m) (by omega) (by omega)
    show (if 0 ≤ y.1 0 (215 + 21 * (4 - m) + a) then zFi y u what a f0 m else if 0 ≤ zWh (y.1 0) u a 5 then zFi y u what a f0 m else if what = 0 then y.1 0 0 + nI a else nI (4 - m)) = f0
    by_cases c1 : 0 ≤ y.1 0 (215 + 21 * (4 - m) + a)
    · rw [if_pos c1]; exact ih
    · rw [if_neg c1]
      by_cases c2 : 0 ≤ zWh (y.1 0) u a 5
      · rw [if_pos c2]; exact ih
      · exact absurd ⟨c1, c2⟩ h
theorem zFi_at {y : MS} {u what : Int32} {a : Nat} {f0 : Int32} {w : Nat} (hw : w < 5) (hok : ¬ 0 ≤ y.1 0 (215 + 21 * w + a) ∧ ¬ 0 ≤ zWh (y.1 0) u a 5) : ∀ m, 5 - m ≤ w → m ≤ 5 → (∀ v, 5 - m ≤ v → v < w → ¬ (¬ 0 ≤ y.1 0 (215 + 21 * v + a) ∧ ¬ 0 ≤ zWh (y.1 0) u a 5)) → zFi y u what a f0 m = if what = 0 then y.1 0 0 + nI a else nI w
  | 0, h0, _, _ => by omega
  | m + 1, h0, hm, hno => by
    show (if 0 ≤ y.1 0 (215 + 21 * (4 - m) + a) then zFi y u what a f0 m else if 0 ≤ zWh (y.1 0) u a 5 then zFi y u what a f0 m else if what = 0 then y.1 0 0 + nI a else nI (4 - m)) = _
    by_cases e : 4 - m = w
    · rw [e, if_neg hok.1, if_neg hok.2]
    · have ih := zFi_at (what := what) (f0 := f0) hw hok m (by omega) (by omega) (fun v h1 h2 => hno v (by omega) h2)
      have h := hno (4 - m) (by omega) (by omega)
      by_cases c1 : 0 ≤ y.1 0 (215 + 21 * (4 - m) + a)
      · rw [if_pos c1]; exact ih
      · exact absurd ⟨c1, hok.2⟩ h
theorem zFo_at {y : MS} {u what : Int32} {a w : Nat} (ha : a < 21) (hw : w < 5) (hok : ¬ 0 ≤ y.1 0 (215 + 21 * w + a) ∧ ¬ 0 ≤ zWh (y.1 0) u a 5) (hno : ∀ a' w', w' < 5 → 5 * a' + w' < 5 * a + w → ¬ (¬ 0 ≤ y.1 0 (215 + 21 * w' + a') ∧ ¬ 0 ≤ zWh (y.1 0) u a' 5)) : ∀ m, 21 - m ≤ a → m ≤ 21 → zFo y u what m = if what = 0 then y.1 0 0 + nI a else nI w
  | 0, h0, _ => by omega
  | m + 1, h0, hm => by
    show zFi y u what (20 - m) (zFo y u what m) 5 = _
    by_cases e : 20 - m = a
    · rw [e]
      exact zFi_at hw hok 5 (by omega) (by decide) (fun v _ h2 => hno a v (by omega) (by omega))
    · rw [zFi_no 5 (by decide) (fun v _ h2 => hno (20 - m) v h2 (by omega))]
      exact zFo_at ha hw hok hno m (by omega) (by omega)
/-- how far the law's search has come -/
def FF (k0 : Nat → Int32) (i g0 : Int32) (m : Nat) (nv fv : Int32) : Prop :=
  (nv = -1 ∧ fv = -1 ∧ ∀ a w, w < 5 → 5 * a + w < m → ¬ okL k0 i a w) ∨ (¬ nv < 0 ∧ ∃ a w, a < 7 ∧ w < 5 ∧ okL k0 i a w ∧ (∀ a' w', w' < 5 → 5 * a' + w' < 5 * a + w → ¬ okL k0 i a' w') ∧ nv = g0 + nI a ∧ fv = nI w)
theorem FF_end {k0 : Nat → Int32} {i g0 nv fv : Int32} (h : FF k0 i g0 35 nv fv) : ∃ a w, a < 7 ∧ w < 5 ∧ okL k0 i a w ∧ (∀ a' w', w' < 5 → 5 * a' + w' < 5 * a + w → ¬ okL k0 i a' w') ∧ nv = g0 + nI a ∧ fv = nI w := by
  rcases h with ⟨-, -, h⟩ | ⟨-, h⟩
  · exact absurd (fun h6 => absurd h6 (by decide)) (h 6 0 (by decide) (by decide))
  · exact h
theorem B_ff (h : IV J q zr z) (hz : LZn J n np nt x zr z) {i : Nat} (hi : i < np) {nv fv : Int32} (hF : FF z.2.2.1 (nI i) (z.1 0) 35 nv fv) : vX6_firstFree q (nI i) 0 = nv ∧ vX6_firstFree q (nI i) 1 = fv := by
  obtain ⟨a, w, ha, hw, hok, hno, h1, h2⟩ := FF_end hF
  have hok2 := (ok_z hz hi (a := a) (by omega) hw).mp hok
  have hno2 : ∀ a' w', w' < 5 → 5 * a' + w' < 5 * a + w → ¬ (¬ 0 ≤ (mz zr).1 0 (215 + 21 * w' + a') ∧ ¬ 0 ≤ zWh ((mz zr).1 0) (nI i) a' 5) := fun a' w' g1 g2 e => hno a' w' g1 g2 ((ok_z hz hi (by omega) g1).mpr e)
  have key : ∀ what : Int32, isW what 0 1 = true → vX6_firstFree q (nI i) what = if what = 0 then zr 0 + nI a else nI w := fun what hwh => by
    refine (Q_first h.2.1 (nI i) what).trans ?_
    unfold zFirst
    rw [if_pos (isPu hz.2.1.2.1 hz.1.2.1 hi), if_pos hwh]
    exact zFo_at (y := mz zr) (by omega) hw hok2 hno2 21 (by omega) (by decide)
  refine ⟨?_, ?_⟩
  · rw [key 0 (by decide), if_pos rfl, h1, hz.2.2.1 0 (by decide)]
  · rw [key 1 (by decide), if_neg (show ¬ (1 : Int32) = 0 by decide), h2]
end LPu
