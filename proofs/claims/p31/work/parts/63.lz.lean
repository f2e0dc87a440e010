/-! what ties the law's numbers z to the reference's row zr; the class stands behind zr -/
def PL (pl wh sp : Int32) : Prop := (wh = 0 ∧ ∃ q : Nat, q < 24 ∧ pl = nI q ∧ sp = nI q) ∨ (wh = 1 ∧ pl = 24) ∨ (wh = 2 ∧ pl = 25)
def GLz (kd gl pg : Int32) : Prop := ((kd = 2 ∨ kd = 3) ∧ ∃ c : Nat, c < 4 ∧ gl = nI c ∧ pg = nI (c + 1)) ∨ (¬ (kd = 2 ∨ kd = 3) ∧ gl = -6 ∧ pg = 0)
def ZP (J : Nat) (x : Int64) (zr : Nat → Int32) (p : Nat) : Prop :=
  pt x 0 = zr (35 + 9 * p) ∧ (pt x 1 = zr (35 + 9 * p + 1) ∧ ∃ c : Nat, 1 ≤ c ∧ c ≤ 3 ∧ zr (35 + 9 * p + 1) = nI c) ∧ pt x 2 = zr (35 + 9 * p + 2) ∧ (pt x 3 = zr (35 + 9 * p + 3) ∧ ∃ kd : Nat, kd ≤ 4 ∧ zr (35 + 9 * p + 3) = nI kd) ∧ PL (pt x 4) (zr (35 + 9 * p + 4)) (zr (35 + 9 * p + 5)) ∧
  (∃ d : Nat, d ≤ 2000 ∧ zr (35 + 9 * p + 6) = nI d ∧ pt x 5 = nI (min d 60)) ∧ GLz (zr (35 + 9 * p + 3)) (zr (35 + 9 * p + 7)) (pt x 6) ∧ pt x 7 = zr (35 + 9 * p + 8) ∧ ∃ c : Nat, c ≤ J ∧ zr (35 + 9 * p + 8) = nI c
def LT (zr t : Nat → Int32) : Prop := ∀ i, i < 10 → t (2 * i) = zr (25 + i) ∧ t (2 * i + 1) = zr (15 + i)
def LK (np : Nat) (zr k : Nat → Int32) : Prop := (∀ w a, w < 5 → a < 6 → BK np (k (6 * w + a)) (zr (215 + 21 * w + a))) ∧ ∀ w a, w < 5 → 6 ≤ a → a < 21 → zr (215 + 21 * w + a) = -6
def LG (zr g : Nat → Int32) : Prop := ∀ j, j < 15 → g j = zr j
def LZn (J n np nt x : Nat) (zr : Nat → Int32) (z : ZS) : Prop := (n ≤ 20 ∧ np ≤ 10 ∧ nt ≤ 3 * J ∧ x < 65537) ∧ (zr 7 = nI n ∧ zr 6 = nI np ∧ zr 0 = nI nt ∧ zr 1 = nI x ∧ ∃ s : Nat, s ≤ 3 ∧ zr 2 = nI s) ∧ LG zr z.1 ∧ LT zr z.2.2.2 ∧ LK np zr z.2.2.1 ∧ ∀ p, p < n → ZP J (z.2.1 p) zr p
def LZ (J : Nat) (zr : Nat → Int32) (z : ZS) : Prop := ∃ n np nt x, LZn J n np nt x zr z
def IV (J : Nat) (q : PS) (zr : Nat → Int32) (z : ZS) : Prop := pHK q ∧ WR (20 * J) q.1 zr ∧ LZ J zr z
theorem LP_c {J J2 : Nat} {x : Int64} {zr zr2 : Nat → Int32} {p : Nat} (h : ZP J x zr p) (hJ : J ≤ J2) (hz : ∀ i, i < 9 → zr2 (35 + 9 * p + i) = zr (35 + 9 * p + i)) : ZP J2 x zr2 p := by
  have z0 : zr2 (35 + 9 * p) = zr (35 + 9 * p) := hz 0 (by omega)
  unfold ZP at h ⊢
  rw [z0, hz 1 (by omega), hz 2 (by omega), hz 3 (by omega), hz 4 (by omega), hz 5 (by omega), hz 6 (by omega), hz 7 (by omega), hz 8 (by omega)]
  obtain ⟨h0, h1, h2, h3, h4, h5, h6, h7, c, hc, h8⟩ := h
  exact ⟨h0, h1, h2, h3, h4, h5, h6, h7, c, by omega, h8⟩
theorem LT_c {zr zr2 t : Nat → Int32} (h : LT zr t) (hz : ∀ i, 15 ≤ i → i < 35 → zr2 i = zr i) : LT zr2 t := fun i hi => by
  rw [hz (25 + i) (by omega) (by omega), hz (15 + i) (by omega) (by omega)]; exact h i hi
theorem BK_m {np np2 : Nat} {c b : Int32} (h : BK np c b) (hn : np ≤ np2) : BK np2 c b := by
  rcases h with h | ⟨q, h1, h2⟩
  · exact Or.inl h
  · exact Or.inr ⟨q, by omega, h2⟩
theorem LK_c {np np2 : Nat} {zr zr2 k : Nat → Int32} (h : LK np zr k) (hn : np ≤ np2) (hz : ∀ i, i < 105 → zr2 (215 + i) = zr (215 + i)) : LK np2 zr2 k := by
  refine ⟨fun w a hw ha => ?_, fun w a hw h6 ha => ?_⟩
  · rw [show 215 + 21 * w + a = 215 + (21 * w + a) by omega, hz _ (by omega), show 215 + (21 * w + a) = 215 + 21 * w + a by omega]
    exact BK_m (h.1 w a hw ha) hn
  · rw [show 215 + 21 * w + a = 215 + (21 * w + a) by omega, hz _ (by omega), show 215 + (21 * w + a) = 215 + 21 * w + a by omega]
    exact h.2 w a hw h6 ha
theorem LZ_m {J J2 : Nat} {zr : Nat → Int32} {z : ZS} (h : LZ J zr z) (hJ : J ≤ J2) : LZ J2 zr z := by
  obtain ⟨n, np, nt, x, ⟨a1, a2, a3, a4⟩, b, g, t, k, hp⟩ := h
  exact ⟨n, np, nt, x, ⟨a1, a2, by omega, a4⟩, b, g, t, k, fun p h => LP_c (hp p h) hJ (fun _ _ => rfl)⟩
theorem IV_m {J J2 : Nat} {q : PS} {zr : Nat → Int32} {z : ZS} (h : IV J q zr z) (hJ : J ≤ J2) : IV J2 q zr z := ⟨h.1, WR_K h.2.1 (by omega), LZ_m h.2.2 hJ⟩
theorem pHK_rec {q : PS} (h : pHK q) (v : Int32) : pHK (wX1_record q v) := by
  by_cases hv : v < 0
  · rw [show wX1_record q v = q from if_pos hv]; exact h
  · obtain ⟨h1, h2⟩ := h
    generalize cl (pH q 0) = m at h1 h2
    have key : pH (wX1_record q v) 0 = nI ((m + 1) % 7) := by
      unfold wX1_record
      rw [if_neg hv]
      show (pH q 0 + 1) - (pH q 0 + 1) / 7 * 7 = _
      rw [h1, nI_1, show (7 : Int32) = nI 7 from rfl, pk_rem (by omega) (by decide) (by decide)]
    have : (m + 1) % 7 < 7 := Nat.mod_lt _ (by decide)
    unfold pHK
    rw [key, cl_n (by omega)]
    exact ⟨rfl, this⟩
theorem F_v (q : PS) (v : Int32) : vX1_record q v = v := by unfold vX1_record; split <;> rfl
theorem F_w (q : PS) (v : Int32) : (wX1_record q v).1 = q.1 := by unfold wX1_record; split <;> rfl
theorem F_no {J : Nat} {q : PS} {zr z2 : Nat → Int32} {z : ZS} {v no dv e : Int32} {w2 : WS} (h : IV J q zr z) (S : Swk (20 * J) q.1 v w2 no dv z2) (hn : no = e) (he : e < 0) : vX1_record (pwNow (wX1_prepare q) w2) v = e ∧ IV J (wX1_record (pwNow (wX1_prepare q) w2) v) zr z := by
  subst hn
  rcases S with ⟨h1, h2, h3⟩ | ⟨h1, -⟩
  · refine ⟨(F_v _ _).trans h2, pHK_rec (q := pwNow (wX1_prepare q) w2) h.1 v, ?_, h.2.2⟩
    rw [F_w]
    show WR (20 * J) w2 zr
    rw [h3]
    exact h.2.1
  · rw [h1] at he; exact absurd he (by decide)
theorem F_do {J : Nat} {q : PS} {zr z2 : Nat → Int32} {z z' : ZS} {v no dv : Int32} {w2 : WS} (h : IV J q zr z) (S : Swk (20 * J) q.1 v w2 no dv z2) (hn : no = 0) (hz : LZ (J + 1) z2 z') : vX1_record (pwNow (wX1_prepare q) w2) v = dv ∧ IV (J + 1) (wX1_record (pwNow (wX1_prepare q) w2) v) z2 z' := by
  rcases S with ⟨h1, -⟩ | ⟨h1, h2, h3, h4⟩
  · rw [hn] at h1; exact absurd h1 (by decide)
  · refine ⟨(F_v _ _).trans h2, pHK_rec (q := pwNow (wX1_prepare q) w2) h.1 v, ?_, hz⟩
    rw [F_w]
    show WR (20 * (J + 1)) w2 z2
    exact WR_K h4 (by omega)
theorem IV_ok {J : Nat} {q : PS} {zr : Nat → Int32} {z : ZS} (h : IV J q zr z) : wOK q.1 := by
  obtain ⟨n, np, nt, hs, -⟩ := h.2.1
  have e := wN_n hs.2.1.1 hs.1.1
  exact ⟨by rw [e]; exact hs.2.1.1, by rw [e]; exact hs.1.1⟩
theorem isPu {zr : Nat → Int32} {np : Nat} (h6 : zr 6 = nI np) (hn : np ≤ 10) {pu : Nat} (hp : pu < np) : vX7_isPupil (mz zr) (nI pu) = true := (ltW_of (x := zr 6) h6 (by omega)).mpr ⟨pu, hp, rfl⟩
theorem noPu {zr : Nat → Int32} {np : Nat} (h6 : zr 6 = nI np) (hn : np ≤ 10) {pu : Nat} (hu : pu < 2 ^ 31) (hp : ¬ pu < np) : ¬ vX7_isPupil (mz zr) (nI pu) = true := fun z => by
  obtain ⟨p, h1, h2⟩ := (ltW_of (x := zr 6) h6 (by omega)).mp z
  have := (nI_eq hu (by omega)).mp h2
  omega
theorem isPo {zr : Nat → Int32} {n : Nat} (h7 : zr 7 = nI n) (hn : n ≤ 20) {p : Nat} (hp : p < n) : vX7_isPot (mz zr) (nI p) = true := (ltW_of (x := zr 7) h7 (by omega)).mpr ⟨p, hp, rfl⟩
theorem isW_nI {a lo hi : Nat} (h1 : lo ≤ a) (h2 : a ≤ hi) (hh : hi < 2 ^ 31) : isW (nI a) (nI lo) (nI hi) = true := by
  simp only [isW, Bool.and_eq_true, decide_eq_true_eq]
  exact ⟨fun z => by have := (nI_ltI (by omega) (by omega)).mp z; omega, fun z => by have := (nI_ltI (by omega) (by omega)).mp z; omega⟩
theorem isW_no {a lo hi : Nat} (h : a < lo ∨ hi < a) (ha : a < 2 ^ 31) (hlo : lo < 2 ^ 31) (hh : hi < 2 ^ 31) : ¬ isW (nI a) (nI lo) (nI hi) = true := fun z => by
  obtain ⟨m, h1, h2, h3⟩ := isW_of hlo hh z
  have := (nI_eq ha (by omega)).mp h3
  omega
theorem isA {a : Nat} (ha : a < 21) : vX7_isAhead (nI a) = true := isW_nI (lo := 0) (hi := 20) (by omega) (by omega) (by decide)
theorem isWh {a : Nat} (ha : a < 5) : vX7_isWheel (nI a) = true := isW_nI (lo := 0) (hi := 4) (by omega) (by omega) (by decide)
theorem isGl {a : Nat} (ha : a < 4) : vX7_isGlaze (nI a) = true := isW_nI (lo := 0) (hi := 3) (by omega) (by omega) (by decide)
/-! pupils come -/
theorem L_pupil_no {J : Nat} {q : PS} {zr : Nat → Int32} {z : ZS} (h : IV J q zr z) (hc : z.1 6 = 10) : vX6_pupil q = -4 ∧ IV J (wX6_pupil q) zr z := by
  obtain ⟨n, np, nt, x, -, -, hg, -⟩ := h.2.2
  exact F_no h (S_pupil h.2.1) (by show (if zr 6 = 10 then -4 else 0) = (-4 : Int32); rw [if_pos (by rw [← hg 6 (by decide)]; exact hc)]) (by decide)
theorem L_pupil {J : Nat} {q : PS} {zr : Nat → Int32} {z : ZS} (h : IV J q zr z) (hc : ¬ z.1 6 = 10) : vX6_pupil q = z.1 6 + 1 - 1 ∧ ∃ zr2, IV (J + 1) (wX6_pupil q) zr2 (ug z 6 (z.1 6 + 1)) := by
  obtain ⟨n, np, nt, x, ⟨a1, a2, a3, a4⟩, ⟨b1, b2, b3, b4⟩, hg, ht, hk, hp⟩ := h.2.2
  have g6 := hg 6 (by decide)
  have hnp : np < 10 := by
    rcases Nat.lt_or_ge np 10 with h1 | h1
    · exact h1
    · exact absurd (g6.trans (b2.trans (by rw [show np = 10 by omega]; rfl))) hc
  have F := F_do (z' := ug z 6 (z.1 6 + 1)) h (S_pupil h.2.1) (by show (if zr 6 = 10 then -4 else 0) = (0 : Int32); rw [if_neg (by rw [← g6]; exact hc)])
    ⟨n, np + 1, nt, x, ⟨a1, by omega, by omega, a4⟩, ⟨b1, ?_, b3, b4⟩, fun j hj => ?_, LT_c ht (fun i _ _ => upd_o _ _ (by omega)), LK_c hk (by omega) (fun i _ => upd_o _ _ (by omega)), fun p hp2 => LP_c (hp p hp2) (by omega) (fun i _ => upd_o _ _ (by omega))⟩
  · refine ⟨F.1.trans ?_, _, F.2⟩
    show upd zr 6 (zr 6 + 1) 6 - 1 = _
    rw [upd_s, g6]
  · show upd zr 6 (zr 6 + 1) 6 = _
    rw [upd_s, b2, nI_1]
  · show upd z.1 6 (z.1 6 + 1) j = upd zr 6 (zr 6 + 1) j
    by_cases e : j = 6
    · subst e; rw [upd_s, upd_s, g6]
    · rw [upd_o _ _ e, upd_o _ _ e]; exact hg j hj
