/-! settings and nights -/
section LOt
variable {J n np nt x : Nat} {zr : Nat → Int32} {z : ZS} {q : PS}
def sV (st : Nat) (y : Int32) : Nat := if st = 0 then 1 + lo y 3 else if st = 1 then 3 + lo y 22 else if st = 2 then 100 + lo y 41 else lo y 21
theorem sV_e {st : Nat} (hs : st < 4) (y : Int32) : (if nI st = 0 then 1 + nI (lo y 3) else if nI st = 1 then 3 + nI (lo y 22) else if nI st = 2 then 100 + nI (lo y 41) else nI (lo y 21) : Int32) = nI (sV st y) := by
  unfold sV
  rcases (show st = 0 ∨ st = 1 ∨ st = 2 ∨ st = 3 by omega) with rfl | rfl | rfl | rfl
  · rw [if_pos (show nI 0 = 0 from rfl), if_pos rfl, show (1 : Int32) = nI 1 from rfl, nI_add]
  · rw [if_neg (show ¬ nI 1 = 0 by decide), if_pos (show nI 1 = 1 from rfl), if_neg (show ¬ 1 = 0 by decide), if_pos rfl, show (3 : Int32) = nI 3 from rfl, nI_add]
  · rw [if_neg (show ¬ nI 2 = 0 by decide), if_neg (show ¬ nI 2 = 1 by decide), if_pos (show nI 2 = 2 from rfl), if_neg (show ¬ 2 = 0 by decide), if_neg (show ¬ 2 = 1 by decide), if_pos rfl, show (100 : Int32) = nI 100 from rfl, nI_add]
  · rw [if_neg (show ¬ nI 3 = 0 by decide), if_neg (show ¬ nI 3 = 1 by decide), if_neg (show ¬ nI 3 = 2 by decide), if_neg (show ¬ 3 = 0 by decide), if_neg (show ¬ 3 = 1 by decide), if_neg (show ¬ 3 = 2 by decide)]
theorem set_do (h : IV J q zr z) (hz : LZn J n np nt x zr z) {st : Nat} (hs : st < 4) (y : Int32) : vX6_set q (nI st) (nI (sV st y)) = z.1 (2 + st) ∧ ∃ zr2, IV (J + 1) (wX6_set q (nI st) (nI (sV st y))) zr2 (ug z (2 + st) (nI (sV st y))) := by
  have l3 := lo_lt y (n := 3) (by decide)
  have l22 := lo_lt y (n := 22) (by decide)
  have l41 := lo_lt y (n := 41) (by decide)
  have l21 := lo_lt y (n := 21) (by decide)
  have hno : zNoSet (nI st) (nI (sV st y)) = 0 := by
    unfold zNoSet
    rw [if_pos (show isW (nI st) 0 3 = true from isW_nI (lo := 0) (hi := 3) (by omega) (by omega) (by decide))]
    refine if_pos ?_
    unfold sV
    rcases (show st = 0 ∨ st = 1 ∨ st = 2 ∨ st = 3 by omega) with rfl | rfl | rfl | rfl
    · rw [if_pos rfl]; exact isW_nI (lo := 1) (hi := 9) (by omega) (by omega) (by decide)
    · rw [if_neg (show ¬ 1 = 0 by decide), if_pos rfl]; exact isW_nI (lo := 3) (hi := 24) (by omega) (by omega) (by decide)
    · rw [if_neg (show ¬ 2 = 0 by decide), if_neg (show ¬ 2 = 1 by decide), if_pos rfl]; exact isW_nI (lo := 100) (hi := 140) (by omega) (by omega) (by decide)
    · rw [if_neg (show ¬ 3 = 0 by decide), if_neg (show ¬ 3 = 1 by decide), if_neg (show ¬ 3 = 2 by decide)]; exact isW_nI (lo := 0) (hi := 20) (by omega) (by omega) (by decide)
  have F := F_do (z' := ug z (2 + st) (nI (sV st y))) h (S_set h.2.1 (nI st) (nI (sV st y))) hno (by
    rw [cl_n (by omega)]
    obtain ⟨⟨a1, a2, a3, a4⟩, ⟨b1, b2, b3, b4, s, b5, b6⟩, hg, ht, hk, hp⟩ := hz
    refine ⟨n, np, nt, x, ⟨a1, a2, by omega, a4⟩, ⟨(upd_o _ _ (by omega)).trans b1, (upd_o _ _ (by omega)).trans b2, (upd_o _ _ (by omega)).trans b3, (upd_o _ _ (by omega)).trans b4, ?_⟩, fun j hj => ?_, LT_c ht (fun i _ _ => upd_o _ _ (by omega)), LK_c hk (Nat.le_refl _) (fun i _ => upd_o _ _ (by omega)), fun p hp2 => LP_c (hp p hp2) (Nat.le_succ _) (fun i _ => upd_o _ _ (by omega))⟩
    · by_cases e : st = 0
      · subst e
        exact ⟨sV 0 y, by unfold sV; rw [if_pos rfl]; omega, upd_s _ _ _⟩
      · exact ⟨s, b5, (upd_o _ _ (by omega)).trans b6⟩
    · show upd z.1 (2 + st) _ j = upd zr (2 + st) _ j
      by_cases e : j = 2 + st
      · subst e; rw [upd_s, upd_s]
      · rw [upd_o _ _ e, upd_o _ _ e]; exact hg j hj)
  refine ⟨F.1.trans ?_, _, F.2⟩
  rw [cl_n (by omega), hz.2.2.1 (2 + st) (by omega)]
theorem set_4 (h : IV J q zr z) : vX6_set q 4 0 = -2 ∧ IV J (wX6_set q 4 0) zr z := F_no h (S_set h.2.1 4 0) (show zNoSet 4 0 = -2 by decide) (by decide)
theorem set_0 (h : IV J q zr z) : vX6_set q 0 10 = -2 ∧ IV J (wX6_set q 0 10) zr z := F_no h (S_set h.2.1 0 10) (show zNoSet 0 10 = -2 by decide) (by decide)
theorem set_2 (h : IV J q zr z) : vX6_set q 2 99 = -2 ∧ IV J (wX6_set q 2 99) zr z := F_no h (S_set h.2.1 2 99) (show zNoSet 2 99 = -2 by decide) (by decide)
theorem pass_out (h : IV J q zr z) {u : Nat} (hu : u < 1 ∨ 20 < u) (h2 : u < 1000) : vX6_pass q (nI u) = -2 ∧ IV J (wX6_pass q (nI u)) zr z :=
  F_no h (S_pass h.2.1 (nI u)) (if_neg (show ¬ isW (nI u) 1 20 = true from isW_no (lo := 1) (hi := 20) hu (by omega) (by decide) (by decide))) (by decide)
/-! a night: pot by pot -/
def lDry1 (b : Nat → Int64) (p : Nat) : Nat → Int64 :=
  if pt (b p) 3 = 0 ∧ ¬ 24 ≤ pt (b p) 4 then vp_updL b p (wt (b p) 5 (if pt (b p) 5 + (if 8 ≤ pt (b p) 4 then 1 else 2) ≤ 60 then pt (b p) 5 + (if 8 ≤ pt (b p) 4 then 1 else 2) else 60)) else b
def LDi (J n np nt x : Nat) (Z : Nat → Int32) (z : ZS) (i : Nat) (bi : Nat → Int64) : Prop :=
  LZn J n np nt x ((zDN (mz Z) i).1 0) (z.1, bi, z.2.2) ∧ (∀ p, i ≤ p → p < n → bi p = z.2.1 p ∧ ∀ k, k < 9 → (zDN (mz Z) i).1 0 (35 + 9 * p + k) = Z (35 + 9 * p + k)) ∧ ∀ j, 215 ≤ j → (zDN (mz Z) i).1 0 j = Z j
theorem LDi_0 {Z : Nat → Int32} (hz : LZn J n np nt x Z z) : LDi J n np nt x Z z 0 z.2.1 := ⟨hz, fun _ _ _ => ⟨rfl, fun _ _ => rfl⟩, fun _ _ => rfl⟩
theorem pl_8 {pl wh sp : Int32} (h : PL pl wh sp) (h0 : wh = 0) : 8 ≤ pl ↔ 8 ≤ sp := by
  rcases h with ⟨-, c, h2, h3, h4⟩ | ⟨h1, h2⟩ | ⟨h1, h2⟩
  · rw [h3, h4]
  · rw [h1] at h0; exact absurd h0 (by decide)
  · rw [h1] at h0; exact absurd h0 (by decide)
theorem LDi_s {Z : Nat → Int32} (hz : LZn J n np nt x Z z) (hd : ∀ p, p < n → ∃ d : Nat, d ≤ 700 ∧ Z (35 + 9 * p + 6) = nI d) {i : Nat} (hi : i < n) {bi : Nat → Int64} (hF : LDi J n np nt x Z z i bi) : LDi J n np nt x Z z (i + 1) (lDry1 bi i) := by
  obtain ⟨hL, hR, hB⟩ := hF
  have hn := hz.1.1
  have hs := zDN_s Z i
  have ei := zD1_e ((zDN (mz Z) i).1 0) i
  unfold LDi
  rw [hs, ei]
  generalize hZ : (zDN (mz Z) i).1 0 = Y at hL hR hB ⊢
  obtain ⟨hbi, hkk⟩ := hR i (Nat.le_refl _) hi
  have hPi : ZP J (bi i) Y i := by rw [hbi]; exact LP_c (LZ_p hz hi) (Nat.le_refl _) hkk
  have k3 : pt (bi i) 3 = Y (35 + 9 * i + 3) := hPi.2.2.2.1.1
  have hrk := PL_rk hPi.2.2.2.2.1
  by_cases c3 : Y (35 + 9 * i + 3) = 0
  · by_cases c4 : Y (35 + 9 * i + 4) = 0
    · rw [if_pos c3, if_pos c4]
      have e8 := pl_8 hPi.2.2.2.2.1 c4
      unfold lDry1
      rw [if_pos (show pt (bi i) 3 = 0 ∧ ¬ 24 ≤ pt (bi i) 4 from ⟨k3.trans c3, hrk.mpr c4⟩)]
      simp only [e8]
      obtain ⟨d, hd1, hd2⟩ := hd i hi
      have hY6 : Y (35 + 9 * i + 6) = nI d := (hkk 6 (by decide)).trans hd2
      obtain ⟨mo, hmo, emo⟩ : ∃ mo : Nat, mo ≤ 2 ∧ (if 8 ≤ Y (35 + 9 * i + 5) then 1 else 2 : Int32) = nI mo := by
        split
        · exact ⟨1, by decide, rfl⟩
        · exact ⟨2, by decide, rfl⟩
      rw [emo, hY6, nI_add]
      have h5 : pt (bi i) 5 = nI (min d 60) := by
        obtain ⟨d2, g1, g2, g3⟩ := hPi.2.2.2.2.2.1
        have : d2 = d := (nI_eq (by omega) (by omega)).mp (g2.symm.trans hY6)
        rw [g3, this]
      have hv : (if pt (bi i) 5 + nI mo ≤ 60 then pt (bi i) 5 + nI mo else 60 : Int32) = nI (min (d + mo) 60) := by
        rw [h5, nI_add]
        by_cases c : min d 60 + mo ≤ 60
        · rw [if_pos (show nI (min d 60 + mo) ≤ 60 from (nI_leI (b := 60) (by omega) (by decide)).mpr c)]
          exact congrArg nI (by omega)
        · rw [if_neg (show ¬ nI (min d 60 + mo) ≤ 60 from fun e => c ((nI_leI (b := 60) (by omega) (by decide)).mp e))]
          rw [show min (d + mo) 60 = 60 by omega]; rfl
      rw [hv]
      have out : ∀ j, j ≠ 35 + 9 * i + 6 → upd Y (35 + 9 * i + 6) (nI (d + mo)) j = Y j := fun j hj => upd_o _ _ hj
      have w5 : pt (wt (bi i) 5 (nI (min (d + mo) 60))) 5 = nI (min (d + mo) 60) := pt_wt _ (by decide) (by omega)
      have wo : ∀ k, k < 8 → k ≠ 5 → pt (wt (bi i) 5 (nI (min (d + mo) 60))) k = pt (bi i) k := fun k hk hne => pt_wo _ (by decide) hk hne (by omega)
      refine ⟨LZ_1 (z := (z.1, bi, z.2.2)) hL (Nat.le_refl _) (fun j hj => by rw [out j (by omega)]; exact hL.2.2.1 j hj) (LT_c hL.2.2.2.1 (fun j _ _ => out _ (by omega))) ⟨out _ (by omega), out _ (by omega), out _ (by omega), out _ (by omega), out _ (by omega)⟩ (fun j _ => out _ (by omega)) (fun p2 _ hne j _ => out _ (by omega)) (fun _ => ?_), fun p h1 h2 => ⟨?_, fun k hk => ?_⟩, fun j hj => ?_⟩
      · obtain ⟨a0, a1, a2, a3, a4, -, a6, a7⟩ := hPi
        unfold ZP
        rw [w5, wo 0 (by decide) (by decide), wo 1 (by decide) (by decide), wo 2 (by decide) (by decide), wo 3 (by decide) (by decide), wo 4 (by decide) (by decide), wo 6 (by decide) (by decide), wo 7 (by decide) (by decide), upd_s, out (35 + 9 * i) (by omega), out (35 + 9 * i + 1) (by omega), out (35 + 9 * i + 2) (by omega), out (35 + 9 * i + 3) (by omega), out (35 + 9 * i + 4) (by omega), out (35 + 9 * i + 5) (by omega), out (35 + 9 * i + 7) (by omega), out (35 + 9 * i + 8) (by omega)]
        exact ⟨a0, a1, a2, a3, a4, ⟨d + mo, by omega, rfl, rfl⟩, a6, a7⟩
      · rw [pk_uLn (by omega)]; exact (hR p (by omega) h2).1
      · rw [out _ (by omega)]; exact (hR p (by omega) h2).2 k hk
      · rw [out _ (by omega)]; exact hB j hj
    · rw [if_pos c3, if_neg c4]
      unfold lDry1
      rw [if_neg (fun e => c4 (hrk.mp e.2))]
      exact ⟨hL, fun p h1 h2 => hR p (by omega) h2, hB⟩
  · rw [if_neg c3]
    unfold lDry1
    rw [if_neg (fun e => c3 (k3.symm.trans e.1))]
    exact ⟨hL, fun p h1 h2 => hR p (by omega) h2, hB⟩
/-- the bookings move on by a night, the first m of them -/
def shK (k0 : Nat → Int32) (m : Nat) : Nat → Int32 := fun j => if j < m then (if j % 6 < 5 then k0 (j + 1) else 0) else k0 j
theorem shK_0 (k0 : Nat → Int32) : shK k0 0 = k0 := by
  funext j
  unfold shK
  rw [if_neg (by omega)]
theorem shK_s (k0 : Nat → Int32) (m : Nat) : upd (shK k0 m) m (if 5 ≤ nI (m % 6) then 0 else shK k0 m (m + 1)) = shK k0 (m + 1) := by
  funext j
  by_cases e : j = m
  · subst e
    rw [upd_s]
    unfold shK
    rw [if_neg (show ¬ j + 1 < j by omega), if_pos (show j < j + 1 by omega)]
    have : j % 6 < 6 := Nat.mod_lt _ (by decide)
    by_cases c : j % 6 < 5
    · rw [if_pos c, if_neg (fun h => by have := (nI_leI (a := 5) (by decide) (by omega)).mp h; omega)]
    · rw [if_neg c, if_pos (show (5 : Int32) ≤ nI (j % 6) from (nI_leI (a := 5) (by decide) (by omega)).mpr (by omega))]
  · rw [upd_o _ _ e]
    unfold shK
    by_cases c : j < m
    · rw [if_pos c, if_pos (show j < m + 1 by omega)]
    · rw [if_neg c, if_neg (show ¬ j < m + 1 by omega)]
/-- who has thrown is forgotten -/
def clT (t0 : Nat → Int32) (m : Nat) : Nat → Int32 := fun j => if j % 2 = 0 ∧ j < 2 * m then 0 else t0 j
theorem clT_0 (t0 : Nat → Int32) : clT t0 0 = t0 := by
  funext j
  unfold clT
  rw [if_neg (by omega)]
theorem clT_s (t0 : Nat → Int32) (m : Nat) : upd (clT t0 m) (2 * m) 0 = clT t0 (m + 1) := by
  funext j
  by_cases e : j = 2 * m
  · subst e
    rw [upd_s]
    unfold clT
    rw [if_pos (by omega)]
  · rw [upd_o _ _ e]
    unfold clT
    by_cases c : j % 2 = 0 ∧ j < 2 * m
    · rw [if_pos c, if_pos (by omega)]
    · rw [if_neg c, if_neg (by omega)]
/-- a whole night -/
theorem night_z {Z : Nat → Int32} (hz : LZn J n np nt x Z z) (hnt : nt + 1 ≤ 3 * J) {bn : Nat → Int64} (hF : LDi J n np nt x Z z n bn) : LZn J n np (nt + 1) x ((zNight (mz Z)).1 0) (upd z.1 0 (z.1 0 + 1), bn, shK z.2.2.1 30, clT z.2.2.2 10) := by
  have hN : mN (mz Z) = n := LZ_N hz
  rw [zNight_e, hN]
  obtain ⟨hL, -, -⟩ := hF
  generalize (zDN (mz Z) n).1 0 = Y at hL ⊢
  have g0 : z.1 0 = Y 0 := hL.2.2.1 0 (by decide)
  obtain ⟨⟨a1, a2, a3, a4⟩, ⟨b1, b2, b3, b4, s, b5, b6⟩, hg, ht, hk, hp⟩ := hL
  have o : ∀ {j : Nat}, j ≠ 0 → (j < 25 ∨ (35 ≤ j ∧ j < 215)) → zNt Y j = Y j := fun h1 h2 => zNt_o Y h1 h2
  refine ⟨⟨a1, a2, hnt, a4⟩, ⟨(o (by decide) (by decide)).trans b1, (o (by decide) (by decide)).trans b2, ?_, (o (by decide) (by decide)).trans b4, s, b5, (o (by decide) (by decide)).trans b6⟩, fun j hj => ?_, fun i hi => ⟨?_, ?_⟩, ⟨fun w a hw ha => ?_, fun w a hw h6 ha => ?_⟩, fun p hp2 => LP_c (hp p hp2) (Nat.le_refl _) (fun i hi => o (by omega) (by omega))⟩
  · rw [zNt_0, b3, nI_1]
  · show upd z.1 0 (z.1 0 + 1) j = zNt Y j
    by_cases e : j = 0
    · subst e; rw [upd_s, zNt_0, g0]
    · rw [upd_o _ _ e, o e (by omega)]; exact hg j hj
  · show clT z.2.2.2 10 (2 * i) = zNt Y (25 + i)
    rw [zNt_25 Y (by omega) (by omega)]
    unfold clT
    rw [if_pos (by omega)]
  · show clT z.2.2.2 10 (2 * i + 1) = zNt Y (15 + i)
    rw [o (by omega) (by omega)]
    unfold clT
    rw [if_neg (by omega)]
    exact (ht i hi).2
  · show BK np (shK z.2.2.1 30 (6 * w + a)) (zNt Y (215 + 21 * w + a))
    rw [show 215 + 21 * w + a = 215 + (21 * w + a) by omega, zNt_b Y (by omega), if_neg (by omega)]
    unfold shK
    rw [if_pos (by omega)]
    by_cases c : a < 5
    · rw [if_pos (by omega), show 215 + (21 * w + a) + 1 = 215 + 21 * w + (a + 1) by omega, show 6 * w + a + 1 = 6 * w + (a + 1) by omega]
      exact hk.1 w (a + 1) hw (by omega)
    · rw [if_neg (by omega), show 215 + (21 * w + a) + 1 = 215 + 21 * w + (a + 1) by omega, hk.2 w (a + 1) hw (by omega) (by omega)]
      exact Or.inl ⟨rfl, rfl⟩
  · rw [show 215 + 21 * w + a = 215 + (21 * w + a) by omega, zNt_b Y (by omega)]
    by_cases c : a = 20
    · rw [if_pos (by omega)]
    · rw [if_neg (by omega), show 215 + (21 * w + a) + 1 = 215 + 21 * w + (a + 1) by omega]
      exact hk.2 w (a + 1) hw (by omega) (by omega)
/-! some nights -/
def LNi (J n np nt x : Nat) (zr : Nat → Int32) (m : Nat) (zm : ZS) : Prop := LZn (J + 1) n np (nt + m) x ((zPassN (mz zr) m).1 0) zm
theorem LNi_0 (hz : LZn J n np nt x zr z) : LNi J n np nt x zr 0 z := by
  obtain ⟨⟨a1, a2, a3, a4⟩, b, hg, ht, hk, hp⟩ := hz
  exact ⟨⟨a1, a2, by omega, a4⟩, b, hg, ht, hk, fun p h => LP_c (hp p h) (Nat.le_succ _) (fun _ _ => rfl)⟩
theorem dry_b (h : IV J q zr z) (hz : LZn J n np nt x zr z) (hJ : J ≤ 100) {m : Nat} (hm : m ≤ 3) {p : Nat} (hp : p < n) : ∃ d : Nat, d ≤ 700 ∧ (zPassN (mz zr) m).1 0 (35 + 9 * p + 6) = nI d := by
  obtain ⟨n2, np2, nt2, hW⟩ := h.2.1
  have hs := hW.1
  have e : n2 = n := (nI_eq (by have := hs.1.1; omega) (by have := hz.1.1; omega)).mp (hs.2.1.2.symm.trans hz.2.1.1)
  have e2 : nt2 = nt := (nI_eq (by have := hs.1.2.2; omega) (by have := hz.1.2.2.1; omega)).mp (hs.2.2.2.1.2.symm.trans hz.2.1.2.2.1)
  have h3 := hz.1.2.2.1
  have hP := pass_n hW m (by omega)
  obtain ⟨-, -, -, ⟨-, d, d1, d2⟩, -⟩ := hP.2.2.2.2.2.2.2.1 p (by omega)
  exact ⟨d, by omega, d2⟩
theorem LNi_s (h : IV J q zr z) (hz : LZn J n np nt x zr z) {m : Nat} (hm : m < 3) {zm : ZS} (hL : LNi J n np nt x zr m zm) {bn : Nat → Int64} (hF : LDi (J + 1) n np (nt + m) x ((zPassN (mz zr) m).1 0) zm n bn) : LNi J n np nt x zr (m + 1) (upd zm.1 0 (zm.1 0 + 1), bn, shK zm.2.2.1 30, clT zm.2.2.2 10) := by
  unfold LNi
  rw [zPN_s zr m]
  exact night_z hL (by have := hz.1.2.2.1; omega) hF
theorem pass_do (h : IV J q zr z) (hz : LZn J n np nt x zr z) (hJ : J ≤ 100) {m : Nat} (h1 : 1 ≤ m) (h2 : m ≤ 3) {zm : ZS} (hL : LNi J n np nt x zr m zm) : vX6_pass q (nI m) = zm.1 0 ∧ ∃ zr2, IV (J + 1) (wX6_pass q (nI m)) zr2 zm := by
  have h3 := hz.1.2.2.1
  have F := F_do (z' := zm) h (S_pass h.2.1 (nI m)) ((if_pos (show isW (nI m) 1 20 = true from isW_nI (lo := 1) (hi := 20) h1 (by omega) (by decide))).trans (if_pos (by
    show zr 0 + nI m ≤ 999
    rw [hz.2.1.2.2.1, nI_add]
    exact (nI_leI (b := 999) (by omega) (by decide)).mpr (by omega)))) (by
    rw [cl_n (by omega)]
    exact ⟨_, _, _, _, hL⟩)
  refine ⟨F.1.trans ?_, _, F.2⟩
  rw [cl_n (by omega)]
  exact (hL.2.2.1 0 (by decide)).symm
end LOt
