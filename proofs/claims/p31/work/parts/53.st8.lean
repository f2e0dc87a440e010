/-! numbers of the workshop, the best heat, the first free night -/
theorem Q_figure {K : Nat} {w : WS} {z : Nat → Int32} (h : WR K w z) (what : Int32) (h19 : ¬ what = 19) (h20 : ¬ what = 20) : vX5_figure w what = vX7_count (mz z) what := by
  obtain ⟨n, np, nt, hs, h1, h2, h3, h4, h5, h6, h7, h8, h9⟩ := h
  obtain ⟨⟨b1, b2, b3⟩, ⟨n1, n2⟩, ⟨p1, p2⟩, ⟨t1, t2⟩, x1, f1⟩ := id hs
  have hm : mN (mz z) = n := mzN n2 b1
  unfold vX7_count
  simp only [if_neg h19, if_neg h20, ite_self]
  show _ = (if (isW what 11 14) = true then (z (11 + (cl what - 11))) else (if (isW what 15 18) = true then (z (2 + (cl what - 15))) else (if what = 0 then (z 0) else (if what = 1 then (z 6) else (if what = 2 then (z 7) else (if what = 3 then (zPotsAt (mz z) 0) else (if what = 4 then (mk (zPA z 1) (mN (mz z))) else (if what = 5 then (zSz z (mN (mz z))) else (if what = 6 then (vX7_freePlaces (mz z)) else (if what = 7 then (zLoadable (mz z)) else (if what = 8 then (z 8) else (if what = 9 then (z 9) else (if what = 10 then (z 10) else -2)))))))))))))
  unfold vX5_figure
  have e3 : cOnRacks w = zPotsAt (mz z) 0 := by
    unfold cOnRacks zPotsAt
    rw [wN_n n1 b1, hm]
    exact mk_cong (fun j hj => pt_rack h7 b1 hj)
  have e7 : cLoadable w = zLoadable (mz z) := by
    unfold cLoadable zLoadable
    rw [wN_n n1 b1, hm]
    refine mk_cong (fun j hj => ?_)
    unfold zLdP
    rw [why_n h7 b1 h1 n1 n2 hj]
  have e9 : bitC (cOfKind w 4) = z 9 := by
    rw [ofK_n h7 b1 n1, bit_mk _ (by omega)]
    exact h9.symm
  have e10 : suI (w.1 11) 10 = z 10 := by
    rw [h3.2]
    exact suI_cong h3.1
  rw [hm, e3, e7, e9, e10, inK_n h7 b1 n1, sizes_n h7 b1 n1, (free_n (y := mz z) h7 h8 b1 n1 n2).1, t1.trans t2.symm, p1.trans p2.symm, n1.trans n2.symm, f1]
  by_cases a : isW what 11 14 = true
  · rw [if_pos a, if_pos a]
    obtain ⟨m, m1, m2, rfl⟩ := isW_of (lo := 11) (hi := 14) (by decide) (by decide) a
    rw [show (11 : Int32) = nI 11 from rfl, pk_sub m1, rAt_n (by omega) (by decide), cl_n (by omega)]
    exact (h2 _ (by omega)).1
  · rw [if_neg a, if_neg a]
    by_cases b : isW what 15 18 = true
    · rw [if_pos b, if_pos b]
      obtain ⟨m, m1, m2, rfl⟩ := isW_of (lo := 15) (hi := 18) (by decide) (by decide) b
      rw [show (15 : Int32) = nI 15 from rfl, pk_sub m1, rAt_n (by omega) (by decide), cl_n (by omega)]
      exact (h1 _ (by omega)).1
    · rw [if_neg b, if_neg b]
/-! the best heat -/
def zBr (z : Nat → Int32) (heat : Int32) (m : Nat) : Nat := fb_ct (zFTP (mz z) heat 4) m
def zOn (z : Nat → Int32) (heat : Int32) (m : Nat) : Nat := fb_ct (zCoP (mz z) heat) m
theorem if_ff {α : Type} {a b : α} : (if (false = true) then a else b) = b := if_neg (by decide)
theorem if_tt {α : Type} {a b : α} : (if (true = true) then a else b) = a := if_pos rfl
theorem sc_n {K n np nt : Nat} {w : WS} {z : Nat → Int32} (h : WRpt K n np nt w z) (hn : n ≤ 20) (hset : WRset w z) (heat : Int32) : ∀ m, m ≤ n → cScN w heat m = nI (21 * zOn z heat m) - nI (zBr z heat m)
  | 0, _ => by
    show (0 : Int32) = nI (21 * 0) - nI 0
    decide
  | m + 1, hm => by
    have ih := sc_n h hn hset heat m (by omega)
    show (if cKiln w (nI m) = true then (if cFired w (nI m) heat (rAt 4 (w.1 0) 2) = 4 then cScN w heat m + (-1) else if cFired w (nI m) heat (rAt 4 (w.1 0) 2) = rAt 20 (w.1 5) (nI m) + 1 then cScN w heat m + 21 else cScN w heat m) else cScN w heat m) = nI (21 * (zOn z heat m + if (decide (z (35 + 9 * m + 4) = 1) && decide (vX7_fired (mz z) (nI m) heat m = z (35 + 9 * m + 3) + 1)) = true then 1 else 0)) - nI (zBr z heat m + if (decide (z (35 + 9 * m + 4) = 1) && decide (vX7_fired (mz z) (nI m) heat m = 4)) = true then 1 else 0)
    rw [pt_kiln h hn (by omega), pt_kind h hn (by omega), ih]
    by_cases e : z (35 + 9 * m + 4) = 1
    · rw [decide_eq_true e, if_tt, Bool.true_and, Bool.true_and, fired_n h hn hset heat (by omega) e]
      by_cases f : vX7_fired (mz z) (nI m) heat m = 4
      · have hne : ¬ (4 : Int32) = z (35 + 9 * m + 3) + 1 := by
          rcases pt_k2 h (by omega) e with k | ⟨k, -⟩ <;> rw [k] <;> decide
        rw [if_pos f, f, decide_eq_false hne, if_ff, decide_eq_true rfl, if_tt, Nat.add_zero, ← nI_add, show (-1 : Int32) = -nI 1 from rfl, ← Int32.sub_eq_add_neg, Int32.sub_sub]
      · rw [if_neg f, decide_eq_false f, if_ff, Nat.add_zero (zBr z heat m)]
        by_cases g : vX7_fired (mz z) (nI m) heat m = z (35 + 9 * m + 3) + 1
        · rw [if_pos g, decide_eq_true g, if_tt, Nat.mul_add, ← nI_add, show nI (21 * 1) = 21 from rfl, Int32.sub_eq_add_neg, Int32.sub_eq_add_neg, Int32.add_assoc, Int32.add_comm (-nI (zBr z heat m)), ← Int32.add_assoc]
        · rw [if_neg g, decide_eq_false g, if_ff, Nat.add_zero]
    · rw [decide_eq_false e, if_ff, Bool.false_and, Bool.false_and, if_ff]
      rfl
theorem sc_le {a b c d : Nat} (ha : a ≤ 20) (hb : b ≤ 20) (hc : c ≤ 20) (hd : d ≤ 20) : nI (21 * a) - nI b ≤ nI (21 * c) - nI d ↔ a < c ∨ (a = c ∧ d ≤ b) := by
  rw [fa_le, pk_sub_toInt (by omega) (by omega), pk_sub_toInt (by omega) (by omega)]
  omega
theorem best_n {K n np nt : Nat} {w : WS} {z : Nat → Int32} (h : WRpt K n np nt w z) (hn : n ≤ 20) (hset : WRset w z) (h2 : w.2 2 = nI n) (h7 : z 7 = nI n) : ∀ m, m ≤ 60 → ∃ hb a b : Nat, hb ≤ 140 ∧ a ≤ 20 ∧ b ≤ 20 ∧ cBest w m = (nI hb, nI (21 * a) - nI b) ∧ zBh (mz z) (m + 1) = (nI hb, nI a, nI b) := by
  have hm : mN (mz z) = n := mzN h7 hn
  have eon : ∀ heat, zComeOn (mz z) heat = nI (zOn z heat n) := fun heat => by
    unfold zComeOn
    rw [cnI_ct, hm]; rfl
  have ebr : ∀ heat, oneN (zFiredTo (mz z) heat 4) 20 = nI (zBr z heat n) := fun heat => by
    unfold zFiredTo
    rw [hm, one_mk _ hn]; rfl
  have esc : ∀ heat, cScore w heat = nI (21 * zOn z heat n) - nI (zBr z heat n) := fun heat => by
    unfold cScore
    rw [wN_n h2 hn, sc_n h hn hset heat n (Nat.le_refl _)]
  have lon : ∀ heat, zOn z heat n ≤ 20 := fun heat => Nat.le_trans (fb_ct_le _ _) hn
  have lbr : ∀ heat, zBr z heat n ≤ 20 := fun heat => Nat.le_trans (fb_ct_le _ _) hn
  intro m
  induction m with
  | zero =>
    intro _
    refine ⟨80, zOn z (nI 80) n, zBr z (nI 80) n, by omega, lon _, lbr _, ?_, ?_⟩
    · show (80, cScore w 80) = _
      rw [esc]; rfl
    · show (if (-6 : Int32) < 0 then (nI (80 + 0), zComeOn (mz z) (nI (80 + 0)), oneN (zFiredTo (mz z) (nI (80 + 0)) 4) 20) else _) = _
      rw [if_pos (by decide), eon, ebr]
  | succ m ih =>
    intro hm60
    obtain ⟨hb, a, b, l1, l2, l3, e1, e2⟩ := ih (by omega)
    have he : 80 + (m + 1) = 81 + m := by omega
    have s1 : cBest w (m + 1) = if cScore w (nI (81 + m)) ≤ (cBest w m).2 then cBest w m else (nI (81 + m), cScore w (nI (81 + m))) := rfl
    have s2 : zBh (mz z) (m + 1 + 1) = if (zBh (mz z) (m + 1)).1 < 0 then (nI (80 + (m + 1)), zComeOn (mz z) (nI (80 + (m + 1))), oneN (zFiredTo (mz z) (nI (80 + (m + 1))) 4) 20) else if (zBh (mz z) (m + 1)).2.1 < zComeOn (mz z) (nI (80 + (m + 1))) then (nI (80 + (m + 1)), zComeOn (mz z) (nI (80 + (m + 1))), oneN (zFiredTo (mz z) (nI (80 + (m + 1))) 4) 20) else if zComeOn (mz z) (nI (80 + (m + 1))) = (zBh (mz z) (m + 1)).2.1 then (if (zBh (mz z) (m + 1)).2.2 ≤ oneN (zFiredTo (mz z) (nI (80 + (m + 1))) 4) 20 then zBh (mz z) (m + 1) else (nI (80 + (m + 1)), zComeOn (mz z) (nI (80 + (m + 1))), oneN (zFiredTo (mz z) (nI (80 + (m + 1))) 4) 20)) else zBh (mz z) (m + 1) := rfl
    rw [s1, s2, he, e1, e2, eon, ebr, esc]
    have g1 := lon (nI (81 + m))
    have g2 := lbr (nI (81 + m))
    generalize zOn z (nI (81 + m)) n = c at g1 ⊢
    generalize zBr z (nI (81 + m)) n = d at g2 ⊢
    have k1 : (nI (21 * c) - nI d ≤ nI (21 * a) - nI b) ↔ c < a ∨ (c = a ∧ b ≤ d) := sc_le g1 g2 l2 l3
    have k2 : nI a < nI c ↔ a < c := nI_ltI (by omega) (by omega)
    have k3 : nI c = nI a ↔ c = a := nI_eq (by omega) (by omega)
    have k4 : nI b ≤ nI d ↔ b ≤ d := nI_leI (by omega) (by omega)
    show ∃ hb2 a2 b2 : Nat, hb2 ≤ 140 ∧ a2 ≤ 20 ∧ b2 ≤ 20 ∧ (if nI (21 * c) - nI d ≤ nI (21 * a) - nI b then (nI hb, nI (21 * a) - nI b) else (nI (81 + m), nI (21 * c) - nI d)) = (nI hb2, nI (21 * a2) - nI b2) ∧ (if nI hb < 0 then (nI (81 + m), nI c, nI d) else if nI a < nI c then (nI (81 + m), nI c, nI d) else if nI c = nI a then (if nI b ≤ nI d then (nI hb, nI a, nI b) else (nI (81 + m), nI c, nI d)) else (nI hb, nI a, nI b)) = (nI hb2, nI a2, nI b2)
    rw [if_neg (nI_pos (n := hb) (by omega))]
    by_cases x1 : a < c
    · rw [if_pos (k2.mpr x1), if_neg (fun x => by have := k1.mp x; omega)]
      exact ⟨81 + m, c, d, by omega, g1, g2, rfl, rfl⟩
    · rw [if_neg (fun x => x1 (k2.mp x))]
      by_cases x2 : c = a
      · rw [if_pos (k3.mpr x2)]
        by_cases x3 : b ≤ d
        · rw [if_pos (k4.mpr x3), if_pos (k1.mpr (Or.inr ⟨x2, x3⟩))]
          exact ⟨hb, a, b, l1, l2, l3, rfl, rfl⟩
        · rw [if_neg (fun x => x3 (k4.mp x)), if_neg (fun x => by have := k1.mp x; omega)]
          exact ⟨81 + m, c, d, by omega, g1, g2, rfl, rfl⟩
      · rw [if_neg (fun x => x2 (k3.mp x)), if_pos (k1.mpr (Or.inl (by omega)))]
        exact ⟨hb, a, b, l1, l2, l3, rfl, rfl⟩
theorem Q_bestHeat {K : Nat} {w : WS} {z : Nat → Int32} (h : WR K w z) : cBestHeat w = zBestHeat (mz z) := by
  obtain ⟨n, np, nt, hs, h1, h2, h3, h4, h5, h6, h7, h8, h9⟩ := h
  obtain ⟨⟨b1, b2, b3⟩, ⟨n1, n2⟩, ⟨p1, p2⟩, ⟨t1, t2⟩, x1, f1⟩ := id hs
  obtain ⟨hb, a, b, -, -, -, e1, e2⟩ := best_n h7 b1 h1 n1 n2 60 (Nat.le_refl _)
  unfold cBestHeat zBestHeat
  rw [e1, e2, inK_n h7 b1 n1]
  show _ = if mk (zPA z 1) (mN (mz z)) = 0 then _ else _
  rw [mzN n2 b1]
/-! the first free night -/
theorem zFi_n {np nt : Nat} {w : WS} {z : Nat → Int32} (h0 : w.2 0 = nI nt) (hnt : nt ≤ 999) (hnp : np ≤ 10) (hb : WRbk np nt w z) (hu : WRun z) {q : Int32} (hq : q ≠ -6) (what : Int32) {a : Nat} (ha : a < 21) (f0 : Int32) : zFi (mz z) q what a f0 5 = if cLowest w (nI a) = -6 then f0 else if cWheel w q (nI a) = -6 then (if what = 0 then z 0 + nI a else cLowest w (nI a)) else f0 := by
  have hw := wheel_n h0 hnt hnp hb hu ha hq
  have e : ∀ j, j < 5 → cWheelP w (-6) (nI a) j = decide (z (215 + 21 * j + a) = -6) := fun j hj => by
    unfold cWheelP
    rw [booker_n h0 hnt hnp hb hj ha]
  have n0 : ∀ j, j < 5 → (0 ≤ z (215 + 21 * j + a) ↔ ¬ z (215 + 21 * j + a) = -6) := fun j hj => by
    rcases bk_cs hb hj ha with x | ⟨u, x1, x⟩
    · rw [x]; decide
    · rw [x]; exact ⟨fun _ => i6_n (by omega), fun _ => nI_pos' (by omega)⟩
  have m0 : 0 ≤ zWh z q a 5 ↔ ¬ zWh z q a 5 = -6 := by rw [zWh_6 (by decide)]; exact Int32.not_lt.symm
  have lw : cLowest w (nI a) = if z (215 + 21 * 0 + a) = -6 then nI 0 else if z (215 + 21 * 1 + a) = -6 then nI 1 else if z (215 + 21 * 2 + a) = -6 then nI 2 else if z (215 + 21 * 3 + a) = -6 then nI 3 else if z (215 + 21 * 4 + a) = -6 then nI 4 else -6 := by
    unfold cLowest
    simp only [fnd, e 0 (by omega), e 1 (by omega), e 2 (by omega), e 3 (by omega), e 4 (by omega), decide_eq_true_eq]
  have zf : zFi (mz z) q what a f0 5 = if 0 ≤ z (215 + 21 * 0 + a) then (if 0 ≤ z (215 + 21 * 1 + a) then (if 0 ≤ z (215 + 21 * 2 + a) then (if 0 ≤ z (215 + 21 * 3 + a) then (if 0 ≤ z (215 + 21 * 4 + a) then f0 else if 0 ≤ zWh z q a 5 then f0 else if what = 0 then z 0 + nI a else nI 4) else if 0 ≤ zWh z q a 5 then (if 0 ≤ z (215 + 21 * 4 + a) then f0 else if 0 ≤ zWh z q a 5 then f0 else if what = 0 then z 0 + nI a else nI 4) else if what = 0 then z 0 + nI a else nI 3) else if 0 ≤ zWh z q a 5 then zFi (mz z) q what a f0 2 else if what = 0 then z 0 + nI a else nI 2) else if 0 ≤ zWh z q a 5 then zFi (mz z) q what a f0 3 else if what = 0 then z 0 + nI a else nI 1) else if 0 ≤ zWh z q a 5 then zFi (mz z) q what a f0 4 else if what = 0 then z 0 + nI a else nI 0 := rfl
  have zb : 0 ≤ zWh z q a 5 → ∀ j, zFi (mz z) q what a f0 j = f0 := fun hz j => by
    induction j with
    | zero => rfl
    | succ j ih =>
      show (if 0 ≤ z (215 + 21 * (4 - j) + a) then zFi (mz z) q what a f0 j else if 0 ≤ zWh z q a 5 then zFi (mz z) q what a f0 j else _) = f0
      rw [ih, if_pos hz, ite_self]
  rw [hw]
  by_cases hz : 0 ≤ zWh z q a 5
  · rw [zb hz, if_neg (m0.mp hz), ite_self]
  · have hz6 : zWh z q a 5 = -6 := Classical.byContradiction (fun x => hz (m0.mpr x))
    rw [zf, lw, if_pos hz6]
    simp only [n0 0 (by omega), n0 1 (by omega), n0 2 (by omega), n0 3 (by omega), n0 4 (by omega), if_neg hz]
    have i0 : ¬ nI 0 = -6 := by decide
    have i1 : ¬ nI 1 = -6 := by decide
    have i2 : ¬ nI 2 = -6 := by decide
    have i3 : ¬ nI 3 = -6 := by decide
    have i4 : ¬ nI 4 = -6 := by decide
    by_cases x0 : z (215 + 21 * 0 + a) = -6
    · simp only [if_pos x0, if_neg (not_not_intro x0), if_neg i0]
    · by_cases x1 : z (215 + 21 * 1 + a) = -6
      · simp only [if_neg x0, if_pos x0, if_pos x1, if_neg (not_not_intro x1), if_neg i1]
      · by_cases x2 : z (215 + 21 * 2 + a) = -6
        · simp only [if_neg x0, if_pos x0, if_neg x1, if_pos x1, if_pos x2, if_neg (not_not_intro x2), if_neg i2]
        · by_cases x3 : z (215 + 21 * 3 + a) = -6
          · simp only [if_neg x0, if_pos x0, if_neg x1, if_pos x1, if_neg x2, if_pos x2, if_pos x3, if_neg (not_not_intro x3), if_neg i3]
          · by_cases x4 : z (215 + 21 * 4 + a) = -6
            · simp only [if_neg x0, if_pos x0, if_neg x1, if_pos x1, if_neg x2, if_pos x2, if_neg x3, if_pos x3, if_pos x4, if_neg (not_not_intro x4), if_neg i4]
            · simp only [if_neg x0, if_pos x0, if_neg x1, if_pos x1, if_neg x2, if_pos x2, if_neg x3, if_pos x3, if_neg x4, if_pos x4]
              rw [if_pos trivial]
theorem zFo_n {np nt : Nat} {w : WS} {z : Nat → Int32} (h0 : w.2 0 = nI nt) (t2 : z 0 = nI nt) (hnt : nt ≤ 999) (hnp : np ≤ 10) (hb : WRbk np nt w z) (hu : WRun z) {q : Int32} (hq : q ≠ -6) (what : Int32) : ∀ m, m ≤ 21 → zFo (mz z) q what m = cFFs w q what (21 - m) m
  | 0, _ => rfl
  | m + 1, hm => by
    have ih := zFo_n h0 t2 hnt hnp hb hu hq what m (by omega)
    show zFi (mz z) q what (20 - m) (zFo (mz z) q what m) 5 = if cLowest w (nI (21 - (m + 1))) = -6 then cFFs w q what (21 - (m + 1) + 1) m else if cWheel w q (nI (21 - (m + 1))) = -6 then (if what = 0 then w.2 0 + nI (21 - (m + 1)) else cLowest w (nI (21 - (m + 1)))) else cFFs w q what (21 - (m + 1) + 1) m
    rw [show 21 - (m + 1) + 1 = 21 - m by omega, show 21 - (m + 1) = 20 - m by omega, zFi_n h0 hnt hnp hb hu hq what (by omega), ih, h0, t2]
theorem Q_first {K : Nat} {w : WS} {z : Nat → Int32} (h : WR K w z) (q what : Int32) : cFirst w q what = zFirst (mz z) q what := by
  obtain ⟨n, np, nt, hs, h1, h2, h3, h4, h5, h6, h7, h8, h9⟩ := h
  obtain ⟨⟨b1, b2, b3⟩, ⟨n1, n2⟩, ⟨p1, p2⟩, ⟨t1, t2⟩, x1, f1⟩ := id hs
  have hp : vX5_hasPupil w q = vX7_isPupil (mz z) q := hasP_eq p1 p2 (by omega)
  unfold cFirst zFirst
  rw [← hp]
  by_cases a : vX5_hasPupil w q = true
  · rw [if_pos a, if_pos a]
    obtain ⟨pu, hpu, rfl⟩ := (hasP_of p1 (by omega)).mp a
    have e := zFo_n t1 t2 b3 b2 h5 h6 (q := nI pu) (i6_n (by omega)) what 21 (Nat.le_refl _)
    rw [e]
    by_cases w0 : what = 0
    · subst w0
      rw [if_pos rfl, if_pos (by decide)]
    · by_cases w1 : what = 1
      · subst w1
        rw [if_neg w0, if_pos rfl, if_pos (by decide)]
      · rw [if_neg w0, if_neg w1, if_neg (fun x => by
          obtain ⟨m, -, hm2, rfl⟩ := isW_of (lo := 0) (hi := 1) (by decide) (by decide) x
          rcases (show m = 0 ∨ m = 1 by omega) with rfl | rfl
          · exact w0 rfl
          · exact w1 rfl)]
  · rw [if_neg a, if_neg a]
