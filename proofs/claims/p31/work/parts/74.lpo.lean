/-! pots: what the law does to its numbers is what the reference does to its row -/
section LPt
variable {J n np nt x : Nat} {zr : Nat → Int32} {z : ZS} {q : PS}
/-- one pot changes -/
theorem LZ_1 (hz : LZn J n np nt x zr z) {J2 p : Nat} (hJ2 : J ≤ J2) {zr2 g2 t2 : Nat → Int32} {y : Int64} (hg : LG zr2 g2) (ht : LT zr2 t2) (h0 : zr2 0 = zr 0 ∧ zr2 1 = zr 1 ∧ zr2 2 = zr 2 ∧ zr2 6 = zr 6 ∧ zr2 7 = zr 7) (hk : ∀ i, i < 105 → zr2 (215 + i) = zr (215 + i)) (ho : ∀ p2, p2 < n → p2 ≠ p → ∀ i, i < 9 → zr2 (35 + 9 * p2 + i) = zr (35 + 9 * p2 + i)) (hy : p < n → ZP J2 y zr2 p) : LZn J2 n np nt x zr2 (g2, vp_updL z.2.1 p y, z.2.2.1, t2) := by
  obtain ⟨⟨a1, a2, a3, a4⟩, ⟨b1, b2, b3, b4, s, b5, b6⟩, hg0, ht0, hk0, hp0⟩ := hz
  obtain ⟨c0, c1, c2, c6, c7⟩ := h0
  refine ⟨⟨a1, a2, by omega, a4⟩, ⟨c7.trans b1, c6.trans b2, c0.trans b3, c1.trans b4, s, b5, c2.trans b6⟩, hg, ht, LK_c hk0 (Nat.le_refl _) hk, fun p2 hp2 => ?_⟩
  show ZP J2 (vp_updL z.2.1 p y p2) zr2 p2
  by_cases e : p2 = p
  · subst e
    rw [show (vp_updL z.2.1 p2 y) p2 = y from pk_uLs]
    exact hy hp2
  · rw [show (vp_updL z.2.1 p y) p2 = z.2.1 p2 from pk_uLn e]
    exact LP_c (hp0 p2 hp2) hJ2 (ho p2 hp2 e)
theorem pw4 (y : Int64) {c : Nat} (hc : c < 64) : pt (wt y 4 (nI c)) 4 = nI c ∧ ∀ i, i < 8 → i ≠ 4 → pt (wt y 4 (nI c)) i = pt y i := ⟨pt_wt y (by decide) hc, fun i hi hne => pt_wo y (by decide) hi hne hc⟩
/-- a pot's place changes -/
theorem ZP_pl {J2 p c : Nat} {zr2 : Nat → Int32} {y : Int64} (h : ZP J y zr p) (hJ : J ≤ J2) (hc : c < 64) (hz : ∀ i, i < 9 → i ≠ 4 → i ≠ 5 → zr2 (35 + 9 * p + i) = zr (35 + 9 * p + i)) (hpl : PL (nI c) (zr2 (35 + 9 * p + 4)) (zr2 (35 + 9 * p + 5))) : ZP J2 (wt y 4 (nI c)) zr2 p := by
  obtain ⟨k4, ko⟩ := pw4 y hc
  obtain ⟨h0, h1, h2, h3, h4, h5, h6, h7, d, h8, h9⟩ := h
  have z0 : zr2 (35 + 9 * p) = zr (35 + 9 * p) := hz 0 (by omega) (by omega) (by omega)
  unfold ZP
  rw [k4, ko 0 (by decide) (by decide), ko 1 (by decide) (by decide), ko 2 (by decide) (by decide), ko 3 (by decide) (by decide), ko 5 (by decide) (by decide), ko 6 (by decide) (by decide), ko 7 (by decide) (by decide), z0, hz 1 (by decide) (by decide) (by decide), hz 2 (by decide) (by decide) (by decide), hz 3 (by decide) (by decide) (by decide), hz 6 (by decide) (by decide) (by decide), hz 7 (by decide) (by decide) (by decide), hz 8 (by decide) (by decide) (by decide)]
  exact ⟨h0, h1, h2, h3, hpl, h5, h6, h7, d, by omega, h9⟩
/-! no pots at all -/
theorem noP (hz : LZn J 0 np nt x zr z) (p : Int32) : ¬ vX7_isPot (mz zr) p = true := fun e => by
  obtain ⟨p2, h1, -⟩ := (ltW_of (x := zr 7) hz.2.1.1 (by decide)).mp e
  omega
theorem Z_load (h : IV J q zr z) (hz : LZn J 0 np nt x zr z) (p : Int32) : vX6_load q p = -1 ∧ IV J (wX6_load q p) zr z := F_no h (S_load h.2.1 p) (if_neg (noP hz p)) (by decide)
theorem Z_unload (h : IV J q zr z) (hz : LZn J 0 np nt x zr z) (p : Int32) : vX6_unload q p = -1 ∧ IV J (wX6_unload q p) zr z := F_no h (S_unload h.2.1 p) (if_neg (noP hz p)) (by decide)
theorem Z_glaze (h : IV J q zr z) (hz : LZn J 0 np nt x zr z) (p gl : Int32) : vX6_glaze q p gl = -1 ∧ IV J (wX6_glaze q p gl) zr z := F_no h (S_glaze h.2.1 p gl) (if_neg (noP hz p)) (by decide)
theorem Z_home (h : IV J q zr z) (hz : LZn J 0 np nt x zr z) (p : Int32) : vX6_takeHome q p = -1 ∧ IV J (wX6_takeHome q p) zr z := F_no h (S_home h.2.1 p) (if_neg (noP hz p)) (by decide)
theorem fire_0 (h : IV J q zr z) (hz : LZn J n np nt x zr z) {ht : Nat} (h1 : 80 ≤ ht) (h2 : ht ≤ 140) (h0 : lKs z.2.1 n = 0) : vX6_fire q (nI ht) = -5 ∧ IV J (wX6_fire q (nI ht)) zr z :=
  F_no h (S_fire h.2.1 (nI ht)) ((if_pos (show isW (nI ht) 80 140 = true from isW_nI (lo := 80) (hi := 140) h1 h2 (by decide))).trans (if_pos ((kl_e hz).mp h0))) (by decide)
theorem fire_out (h : IV J q zr z) {ht : Nat} (h1 : ht < 80 ∨ 140 < ht) (h2 : ht < 1000) : vX6_fire q (nI ht) = -2 ∧ IV J (wX6_fire q (nI ht)) zr z :=
  F_no h (S_fire h.2.1 (nI ht)) (if_neg (show ¬ isW (nI ht) 80 140 = true from isW_no (lo := 80) (hi := 140) h1 (by omega) (by decide) (by decide))) (by decide)
/-! loading -/
theorem load_no (h : IV J q zr z) (hz : LZn J n np nt x zr z) {p : Nat} (hp : p < n) (hr : ¬ lWhy z.1 z.2.1 n p ≤ 0) : vX6_load q (nI p) = -5 ∧ IV J (wX6_load q (nI p)) zr z := by
  have hn := hz.1.1
  refine F_no h (S_load h.2.1 (nI p)) ?_ (by decide)
  unfold vX7_noLoad
  rw [if_pos (isPo hz.2.1.1 hn hp), cl_n (by omega), ← lWhy_z hz hp, if_neg hr]
theorem load_do (h : IV J q zr z) (hz : LZn J n np nt x zr z) {p : Nat} (hp : p < n) (hr : lWhy z.1 z.2.1 n p ≤ 0) : vX6_load q (nI p) = lKs (vp_updL z.2.1 p (wt (z.2.1 p) 4 24)) n ∧ ∃ zr2, IV (J + 1) (wX6_load q (nI p)) zr2 (ub z p (wt (z.2.1 p) 4 24)) := by
  have hn := hz.1.1
  have L2 : LZn (J + 1) n np nt x (upd (upd zr (35 + 9 * p + 4) 1) (35 + 9 * p + 5) (-6)) (ub z p (wt (z.2.1 p) 4 24)) :=
    LZ_1 hz (Nat.le_succ _) (fun j hj => by rw [upd_o _ _ (by omega), upd_o _ _ (by omega)]; exact hz.2.2.1 j hj) (LT_c hz.2.2.2.1 (fun i _ _ => by rw [upd_o _ _ (by omega), upd_o _ _ (by omega)])) ⟨by rw [upd_o _ _ (by omega), upd_o _ _ (by omega)], by rw [upd_o _ _ (by omega), upd_o _ _ (by omega)], by rw [upd_o _ _ (by omega), upd_o _ _ (by omega)], by rw [upd_o _ _ (by omega), upd_o _ _ (by omega)], by rw [upd_o _ _ (by omega), upd_o _ _ (by omega)]⟩
      (fun i _ => by rw [upd_o _ _ (by omega), upd_o _ _ (by omega)]) (fun p2 _ hne i _ => by rw [upd_o _ _ (by omega), upd_o _ _ (by omega)])
      (fun _ => ZP_pl (c := 24) (LZ_p hz hp) (Nat.le_succ _) (by decide) (fun i _ _ _ => by rw [upd_o _ _ (by omega), upd_o _ _ (by omega)]) (Or.inr (Or.inl ⟨by rw [upd_o _ _ (by omega), upd_s], rfl⟩)))
  have F := F_do (z' := ub z p (wt (z.2.1 p) 4 24)) h (S_load h.2.1 (nI p)) (by
    unfold vX7_noLoad
    rw [if_pos (isPo hz.2.1.1 hn hp), cl_n (by omega), ← lWhy_z hz hp, if_pos hr]) (by
    rw [cl_n (by omega)]
    exact ⟨n, np, nt, x, L2⟩)
  refine ⟨F.1.trans ?_, _, F.2⟩
  rw [cl_n (by omega)]
  show zSz (upd (upd zr (35 + 9 * p + 4) 1) (35 + 9 * p + 5) (-6)) (mN (mz (upd (upd zr (35 + 9 * p + 4) 1) (35 + 9 * p + 5) (-6)))) = _
  rw [LZ_N L2]
  exact (lKs_z L2 n (Nat.le_refl _)).symm
/-! unloading -/
theorem unload_no (h : IV J q zr z) (hz : LZn J n np nt x zr z) {p : Nat} (hp : p < n) (hr : ¬ pt (z.2.1 p) 4 = 24) : vX6_unload q (nI p) = -5 ∧ IV J (wX6_unload q (nI p)) zr z := by
  have hn := hz.1.1
  refine F_no h (S_unload h.2.1 (nI p)) ?_ (by decide)
  unfold zNoUn
  rw [if_pos (isPo hz.2.1.1 hn hp), cl_n (by omega), if_neg (fun e => hr ((fk hz hp).mpr e))]
theorem unload_do (h : IV J q zr z) (hz : LZn J n np nt x zr z) {p pl : Nat} (hp : p < n) (hpl : pl < 24) (epl : zPlace (mz zr) = nI pl) (hr : pt (z.2.1 p) 4 = 24) : vX6_unload q (nI p) = nI pl / 8 ∧ ∃ zr2, IV (J + 1) (wX6_unload q (nI p)) zr2 (ub z p (wt (z.2.1 p) 4 (nI pl))) := by
  have hn := hz.1.1
  obtain ⟨c, c1, c2, c3⟩ := IV_free h
  have F := F_do (z' := ub z p (wt (z.2.1 p) 4 (nI pl))) h (S_unload h.2.1 (nI p)) (by
    unfold zNoUn
    rw [if_pos (isPo hz.2.1.1 hn hp), cl_n (by omega), if_pos ((fk hz hp).mp hr), c3, if_neg (fun e => by have := (nI_eq (b := 0) (by omega) (by decide)).mp e; omega)]) (by
    rw [cl_n (by omega), epl]
    exact ⟨n, np, nt, x, LZ_1 hz (Nat.le_succ _) (fun j hj => by rw [upd_o _ _ (by omega), upd_o _ _ (by omega)]; exact hz.2.2.1 j hj) (LT_c hz.2.2.2.1 (fun i _ _ => by rw [upd_o _ _ (by omega), upd_o _ _ (by omega)])) ⟨by rw [upd_o _ _ (by omega), upd_o _ _ (by omega)], by rw [upd_o _ _ (by omega), upd_o _ _ (by omega)], by rw [upd_o _ _ (by omega), upd_o _ _ (by omega)], by rw [upd_o _ _ (by omega), upd_o _ _ (by omega)], by rw [upd_o _ _ (by omega), upd_o _ _ (by omega)]⟩
      (fun i _ => by rw [upd_o _ _ (by omega), upd_o _ _ (by omega)]) (fun p2 _ hne i _ => by rw [upd_o _ _ (by omega), upd_o _ _ (by omega)])
      (fun _ => ZP_pl (c := pl) (LZ_p hz hp) (Nat.le_succ _) (by omega) (fun i _ _ _ => by rw [upd_o _ _ (by omega), upd_o _ _ (by omega)]) (Or.inl ⟨by rw [upd_o _ _ (by omega), upd_s], pl, hpl, rfl, by rw [upd_s]⟩))⟩)
  refine ⟨F.1.trans ?_, _, F.2⟩
  rw [epl]
/-! glazing -/
theorem noGlaze_e (hz : LZn J n np nt x zr z) {p gl : Nat} (hp : p < n) (hgl : gl < 4) : vX7_noGlaze (mz zr) (nI p) (nI gl) = if pt (z.2.1 p) 3 = 1 then (if pt (z.2.1 p) 4 ≤ 23 then (if z.1 (11 + gl) < pt (z.2.1 p) 1 then -5 else 0) else -5) else -5 := by
  have hn := hz.1.1
  unfold vX7_noGlaze
  rw [if_pos (isPo hz.2.1.1 hn hp), if_pos (isGl hgl), cl_n (by omega), cl_n (by omega)]
  have hr := PL_r (LZ_pl hz hp)
  show (if zr (35 + 9 * p + 3) = 1 then (if zr (35 + 9 * p + 4) = 0 then (if zr (11 + gl) < zr (35 + 9 * p + 1) then -5 else 0) else -5) else -5) = _
  simp only [hr, (LZ_p hz hp).2.2.2.1.1, (LZ_p hz hp).2.1.1, hz.2.2.1 (11 + gl) (by omega)]
theorem glaze_no (h : IV J q zr z) (hz : LZn J n np nt x zr z) {p gl : Nat} (hp : p < n) (hgl : gl < 4) (hc : ¬ pt (z.2.1 p) 3 = 1 ∨ ¬ pt (z.2.1 p) 4 ≤ 23 ∨ ¬ pt (z.2.1 p) 1 ≤ z.1 (11 + gl)) : vX6_glaze q (nI p) (nI gl) = -5 ∧ IV J (wX6_glaze q (nI p) (nI gl)) zr z := by
  refine F_no h (S_glaze h.2.1 (nI p) (nI gl)) ?_ (by decide)
  rw [noGlaze_e hz hp hgl]
  rcases hc with c | c | c
  · rw [if_neg c]
  · by_cases c1 : pt (z.2.1 p) 3 = 1
    · rw [if_pos c1, if_neg c]
    · rw [if_neg c1]
  · by_cases c1 : pt (z.2.1 p) 3 = 1
    · rw [if_pos c1]
      by_cases c2 : pt (z.2.1 p) 4 ≤ 23
      · rw [if_pos c2, if_pos (Int32.not_le.mp c)]
      · rw [if_neg c2]
    · rw [if_neg c1]
theorem glaze_m1 (h : IV J q zr z) (hz : LZn J n np nt x zr z) {p : Nat} (hp : p < n) : vX6_glaze q (nI p) (-1) = -1 ∧ IV J (wX6_glaze q (nI p) (-1)) zr z :=
  F_no h (S_glaze h.2.1 (nI p) (-1)) ((if_pos (isPo hz.2.1.1 hz.1.1 hp)).trans (if_neg (show ¬ vX7_isGlaze (-1) = true by decide))) (by decide)
theorem glaze_do (h : IV J q zr z) (hz : LZn J n np nt x zr z) {p gl : Nat} (hp : p < n) (hgl : gl < 4) (h1 : pt (z.2.1 p) 3 = 1) (h2 : pt (z.2.1 p) 4 ≤ 23) (h3 : pt (z.2.1 p) 1 ≤ z.1 (11 + gl)) : vX6_glaze q (nI p) (nI gl) = z.1 (11 + gl) - pt (z.2.1 p) 1 ∧ ∃ zr2, IV (J + 1) (wX6_glaze q (nI p) (nI gl)) zr2 (ub (ug z (11 + gl) (z.1 (11 + gl) - pt (z.2.1 p) 1)) p (wt (wt (z.2.1 p) 3 2) 6 (nI (gl + 1)))) := by
  have hn := hz.1.1
  have g11 := hz.2.2.1 (11 + gl) (by omega)
  have k1 := (LZ_p hz hp).2.1.1
  have F := F_do (z' := ub (ug z (11 + gl) (z.1 (11 + gl) - pt (z.2.1 p) 1)) p (wt (wt (z.2.1 p) 3 2) 6 (nI (gl + 1)))) h (S_glaze h.2.1 (nI p) (nI gl)) (by rw [noGlaze_e hz hp hgl, if_pos h1, if_pos h2, if_neg (Int32.not_lt.mpr h3)]) (by
    rw [cl_n (show p < 2 ^ 31 by omega), cl_n (show gl < 2 ^ 31 by omega)]
    show LZ (J + 1) (upd (upd (upd zr (11 + gl) (zr (11 + gl) - zr (35 + 9 * p + 1))) (35 + 9 * p + 3) 2) (35 + 9 * p + 7) (nI gl)) _
    have out : ∀ j, j ≠ 11 + gl → j ≠ 35 + 9 * p + 3 → j ≠ 35 + 9 * p + 7 → upd (upd (upd zr (11 + gl) (zr (11 + gl) - zr (35 + 9 * p + 1))) (35 + 9 * p + 3) 2) (35 + 9 * p + 7) (nI gl) j = zr j := fun j a b c => by rw [upd_o _ _ c, upd_o _ _ b, upd_o _ _ a]
    refine ⟨n, np, nt, x, LZ_1 (g2 := upd z.1 (11 + gl) (z.1 (11 + gl) - pt (z.2.1 p) 1)) hz (Nat.le_succ _) (fun j hj => ?_) (LT_c hz.2.2.2.1 (fun i _ _ => out _ (by omega) (by omega) (by omega))) ⟨out _ (by omega) (by omega) (by omega), out _ (by omega) (by omega) (by omega), out _ (by omega) (by omega) (by omega), out _ (by omega) (by omega) (by omega), out _ (by omega) (by omega) (by omega)⟩ (fun i _ => out _ (by omega) (by omega) (by omega)) (fun p2 _ hne i _ => out _ (by omega) (by omega) (by omega)) (fun _ => ?_)⟩
    · by_cases e : j = 11 + gl
      · subst e
        rw [upd_s, upd_o _ _ (by omega), upd_o _ _ (by omega), upd_s, g11, k1]
      · rw [upd_o _ _ e, out j e (by omega) (by omega)]; exact hz.2.2.1 j hj
    · obtain ⟨a0, a1, a2, a3, a4, a5, a6, a7, d, a8, a9⟩ := LZ_p hz hp
      have w3 : upd (upd (upd zr (11 + gl) (zr (11 + gl) - zr (35 + 9 * p + 1))) (35 + 9 * p + 3) 2) (35 + 9 * p + 7) (nI gl) (35 + 9 * p + 3) = 2 := by rw [upd_o _ _ (by omega), upd_s]
      have w7 : upd (upd (upd zr (11 + gl) (zr (11 + gl) - zr (35 + 9 * p + 1))) (35 + 9 * p + 3) 2) (35 + 9 * p + 7) (nI gl) (35 + 9 * p + 7) = nI gl := upd_s _ _ _
      have e6 : pt (wt (wt (z.2.1 p) 3 2) 6 (nI (gl + 1))) 6 = nI (gl + 1) := pt_wt _ (by decide) (by omega)
      have e3 : pt (wt (wt (z.2.1 p) 3 2) 6 (nI (gl + 1))) 3 = 2 := (pt_wo _ (by decide) (by decide) (by decide) (by omega)).trans (pt_wt (z.2.1 p) (i := 3) (c := 2) (by decide) (by decide))
      have eo : ∀ i, i < 8 → i ≠ 3 → i ≠ 6 → pt (wt (wt (z.2.1 p) 3 2) 6 (nI (gl + 1))) i = pt (z.2.1 p) i := fun i hi n3 n6 => (pt_wo _ (by decide) hi n6 (by omega)).trans (pt_wo (z.2.1 p) (i := 3) (c := 2) (by decide) hi n3 (by decide))
      unfold ZP
      rw [e6, e3, eo 0 (by decide) (by decide) (by decide), eo 1 (by decide) (by decide) (by decide), eo 2 (by decide) (by decide) (by decide), eo 4 (by decide) (by decide) (by decide), eo 5 (by decide) (by decide) (by decide), eo 7 (by decide) (by decide) (by decide), w3, w7, out (35 + 9 * p) (by omega) (by omega) (by omega), out (35 + 9 * p + 1) (by omega) (by omega) (by omega), out (35 + 9 * p + 2) (by omega) (by omega) (by omega), out (35 + 9 * p + 4) (by omega) (by omega) (by omega), out (35 + 9 * p + 5) (by omega) (by omega) (by omega), out (35 + 9 * p + 6) (by omega) (by omega) (by omega), out (35 + 9 * p + 8) (by omega) (by omega) (by omega)]
      exact ⟨a0, a1, a2, ⟨rfl, 2, by decide, rfl⟩, a4, a5, Or.inl ⟨Or.inl rfl, gl, hgl, rfl, rfl⟩, a7, d, by omega, a9⟩)
  refine ⟨F.1.trans ?_, _, F.2⟩
  rw [cl_n (show p < 2 ^ 31 by omega), cl_n (show gl < 2 ^ 31 by omega)]
  show upd (upd (upd zr (11 + gl) (zr (11 + gl) - zr (35 + 9 * p + 1))) (35 + 9 * p + 3) 2) (35 + 9 * p + 7) (nI gl) (11 + gl) = _
  rw [upd_o _ _ (by omega), upd_o _ _ (by omega), upd_s, g11, k1]
/-! filling -/
theorem fill_do (h : IV J q zr z) (hz : LZn J n np nt x zr z) {gl pa : Nat} (hgl : gl < 4) (h1 : 1 ≤ pa) (h2 : pa ≤ 99) : vX6_fill q (nI gl) (nI pa) = (if z.1 (11 + gl) + nI pa ≤ 99 then z.1 (11 + gl) + nI pa else 99 : Int32) ∧ ∃ zr2, IV (J + 1) (wX6_fill q (nI gl) (nI pa)) zr2 (ug z (11 + gl) (if z.1 (11 + gl) + nI pa ≤ 99 then z.1 (11 + gl) + nI pa else 99)) := by
  have g11 := hz.2.2.1 (11 + gl) (by omega)
  have ef : zFill zr (nI gl) (nI pa) = (if z.1 (11 + gl) + nI pa ≤ 99 then z.1 (11 + gl) + nI pa else 99 : Int32) := by unfold zFill; rw [cl_n (by omega), g11]
  have F := F_do (z' := ug z (11 + gl) (if z.1 (11 + gl) + nI pa ≤ 99 then z.1 (11 + gl) + nI pa else 99)) h (S_fill h.2.1 (nI gl) (nI pa)) ((if_pos (show isW (nI gl) 0 3 = true from isW_nI (lo := 0) (hi := 3) (by omega) (by omega) (by decide))).trans (if_pos (show isW (nI pa) 1 99 = true from isW_nI (lo := 1) (hi := 99) h1 h2 (by decide)))) (by
    rw [ef, cl_n (by omega)]
    obtain ⟨⟨a1, a2, a3, a4⟩, ⟨b1, b2, b3, b4, s, b5, b6⟩, hg, ht, hk, hp⟩ := hz
    refine ⟨n, np, nt, x, ⟨a1, a2, by omega, a4⟩, ⟨(upd_o _ _ (by omega)).trans b1, (upd_o _ _ (by omega)).trans b2, (upd_o _ _ (by omega)).trans b3, (upd_o _ _ (by omega)).trans b4, s, b5, (upd_o _ _ (by omega)).trans b6⟩, fun j hj => ?_, LT_c ht (fun i _ _ => upd_o _ _ (by omega)), LK_c hk (Nat.le_refl _) (fun i _ => upd_o _ _ (by omega)), fun p hp2 => LP_c (hp p hp2) (Nat.le_succ _) (fun i _ => upd_o _ _ (by omega))⟩
    show upd z.1 (11 + gl) _ j = upd zr (11 + gl) _ j
    by_cases e : j = 11 + gl
    · subst e; rw [upd_s, upd_s]
    · rw [upd_o _ _ e, upd_o _ _ e]; exact hg j hj)
  exact ⟨F.1.trans ef, _, F.2⟩
theorem fill_4 (h : IV J q zr z) : vX6_fill q 4 0 = -1 ∧ IV J (wX6_fill q 4 0) zr z := F_no h (S_fill h.2.1 4 0) (show zNoFill 4 0 = -1 by decide) (by decide)
theorem fill_100 (h : IV J q zr z) : vX6_fill q 0 100 = -2 ∧ IV J (wX6_fill q 0 100) zr z := F_no h (S_fill h.2.1 0 100) (show zNoFill 0 100 = -2 by decide) (by decide)
/-! taking home -/
theorem pu_n (h : IV J q zr z) (hz : LZn J n np nt x zr z) {p : Nat} (hp : p < n) : ∃ pu : Nat, pu < 10 ∧ pt (z.2.1 p) 0 = nI pu ∧ zr (35 + 9 * p) = nI pu := by
  obtain ⟨n2, np2, nt2, hs, -, -, -, -, -, -, h7, -⟩ := h.2.1
  have e : n2 = n := (nI_eq (by have := hs.1.1; omega) (by have := hz.1.1; omega)).mp (hs.2.1.2.symm.trans hz.2.1.1)
  obtain ⟨⟨-, pu, h1, h2⟩, -⟩ := h7 p (by omega)
  exact ⟨pu, by have := hs.1.2.1; omega, (LZ_p hz hp).1.trans h2, h2⟩
theorem noHome_e (hz : LZn J n np nt x zr z) {p : Nat} (hp : p < n) : vX7_noTakeHome (mz zr) (nI p) = if pt (z.2.1 p) 3 = 3 then (if pt (z.2.1 p) 4 ≤ 23 then 0 else -5) else -5 := by
  have hn := hz.1.1
  unfold vX7_noTakeHome
  rw [if_pos (isPo hz.2.1.1 hn hp), cl_n (by omega)]
  have hr := PL_r (LZ_pl hz hp)
  show (if zr (35 + 9 * p + 3) = 3 then (if zr (35 + 9 * p + 4) = 0 then 0 else -5) else -5) = _
  simp only [hr, (LZ_p hz hp).2.2.2.1.1]
theorem home_no (h : IV J q zr z) (hz : LZn J n np nt x zr z) {p : Nat} (hp : p < n) (hc : ¬ pt (z.2.1 p) 3 = 3 ∨ ¬ pt (z.2.1 p) 4 ≤ 23) : vX6_takeHome q (nI p) = -5 ∧ IV J (wX6_takeHome q (nI p)) zr z := by
  refine F_no h (S_home h.2.1 (nI p)) ?_ (by decide)
  rw [noHome_e hz hp]
  rcases hc with c | c
  · rw [if_neg c]
  · by_cases c1 : pt (z.2.1 p) 3 = 3
    · rw [if_pos c1, if_neg c]
    · rw [if_neg c1]
theorem home_do (h : IV J q zr z) (hz : LZn J n np nt x zr z) {p pu : Nat} (hp : p < n) (hpu : pu < 10) (e0 : zr (35 + 9 * p) = nI pu) (h1 : pt (z.2.1 p) 3 = 3) (h2 : pt (z.2.1 p) 4 ≤ 23) : vX6_takeHome q (nI p) = z.1 5 * pt (z.2.1 p) 1 ∧ ∃ zr2, IV (J + 1) (wX6_takeHome q (nI p)) zr2 (ug (ut (ub z p (wt (z.2.1 p) 4 25)) (2 * pu + 1) (z.2.2.2 (2 * pu + 1) + z.1 5 * pt (z.2.1 p) 1)) 10 (z.1 10 + z.1 5 * pt (z.2.1 p) 1)) := by
  have hn := hz.1.1
  have g5 := hz.2.2.1 5 (by decide)
  have g10 := hz.2.2.1 10 (by decide)
  have k1 := (LZ_p hz hp).2.1.1
  have F := F_do (z' := ug (ut (ub z p (wt (z.2.1 p) 4 25)) (2 * pu + 1) (z.2.2.2 (2 * pu + 1) + z.1 5 * pt (z.2.1 p) 1)) 10 (z.1 10 + z.1 5 * pt (z.2.1 p) 1)) h (S_home h.2.1 (nI p)) (by rw [noHome_e hz hp, if_pos h1, if_pos h2]) (by
    rw [cl_n (by omega), zHome_e (nI p) (by rw [e0, cl_n (by omega)]; exact hpu)]
    unfold zHome
    rw [e0, cl_n (by omega), ← g5, ← k1]
    generalize z.1 5 * pt (z.2.1 p) 1 = fee
    have out : ∀ j, j ≠ 35 + 9 * p + 4 → j ≠ 35 + 9 * p + 5 → j ≠ 10 → j ≠ 15 + pu → upd (upd (upd (upd zr (35 + 9 * p + 4) 2) (35 + 9 * p + 5) (-6)) 10 (zr 10 + fee)) (15 + pu) (zr (15 + pu) + fee) j = zr j := fun j a b c d => by rw [upd_o _ _ d, upd_o _ _ c, upd_o _ _ b, upd_o _ _ a]
    refine ⟨n, np, nt, x, LZ_1 (g2 := upd z.1 10 (z.1 10 + fee)) (t2 := upd z.2.2.2 (2 * pu + 1) (z.2.2.2 (2 * pu + 1) + fee)) hz (Nat.le_succ _) (fun j hj => ?_) (fun i hi => ⟨?_, ?_⟩) ⟨out _ (by omega) (by omega) (by omega) (by omega), out _ (by omega) (by omega) (by omega) (by omega), out _ (by omega) (by omega) (by omega) (by omega), out _ (by omega) (by omega) (by omega) (by omega), out _ (by omega) (by omega) (by omega) (by omega)⟩ (fun i _ => out _ (by omega) (by omega) (by omega) (by omega)) (fun p2 _ hne i _ => out _ (by omega) (by omega) (by omega) (by omega)) (fun _ => ZP_pl (c := 25) (LZ_p hz hp) (Nat.le_succ _) (by decide) (fun i _ _ _ => out _ (by omega) (by omega) (by omega) (by omega)) (Or.inr (Or.inr ⟨?_, rfl⟩)))⟩
    · by_cases e : j = 10
      · subst e; rw [upd_s, upd_o _ _ (by omega), upd_s, g10]
      · rw [upd_o _ _ e, out j (by omega) (by omega) e (by omega)]; exact hz.2.2.1 j hj
    · rw [upd_o _ _ (by omega), out (25 + i) (by omega) (by omega) (by omega) (by omega)]; exact (hz.2.2.2.1 i hi).1
    · by_cases e : i = pu
      · subst e; rw [upd_s, upd_s, (hz.2.2.2.1 i hi).2]
      · rw [upd_o _ _ (by omega), out (15 + i) (by omega) (by omega) (by omega) (by omega)]; exact (hz.2.2.2.1 i hi).2
    · rw [upd_o _ _ (by omega), upd_o _ _ (by omega), upd_o _ _ (by omega), upd_s])
  refine ⟨F.1.trans ?_, _, F.2⟩
  rw [cl_n (by omega), g5, k1]
  rfl
end LPt
