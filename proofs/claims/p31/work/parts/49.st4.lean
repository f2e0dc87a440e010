/-! throwPot -/
def wA6 (w : WS) (q sz fl : Int32) : WS := wRow (wRow (wRow (wRow (wRow (wRow w 2 (rPut 20 (w.1 2) (w.2 2) q)) 3 (rPut 20 (w.1 3) (w.2 2) sz)) 4 (rPut 20 (w.1 4) (w.2 2) fl)) 5 (rPut 20 (w.1 5) (w.2 2) 0)) 7 (rPut 20 (w.1 7) (w.2 2) 0)) 9 (rPut 20 (w.1 9) (w.2 2) 0)
theorem addClay_e (w : WS) (q sz fl : Int32) : wX3_addClay w q sz fl = wSc (cPutRack (wA6 w q sz fl) (w.2 2)) 2 (w.2 2 + 1) := rfl
def dX (x : Int32) : Int32 := (75 * x + 74) - (75 * x + 74) / 65537 * 65537
def dF (x : Int32) : Int32 := x / 8 - x / 8 / 10 * 10
theorem drw_v (w : WS) : vX5_drawFault w = dF (dX (w.2 4)) := rfl
theorem drw_w (w : WS) : wX5_drawFault w = wSc w 4 (dX (w.2 4)) := rfl
def zG4 (z : Nat → Int32) (q sz : Int32) (i n : Nat) : Nat → Int32 := upd (upd (upd (upd z 1 (dX (z 1))) (25 + i) 1) (35 + 9 * n + 0) q) (35 + 9 * n + 1) sz
def zG9 (z : Nat → Int32) (q sz fl : Int32) (i n : Nat) : Nat → Int32 := upd (upd (upd (upd (upd (zG4 z q sz i n) (35 + 9 * n + 2) fl) (35 + 9 * n + 3) 0) (35 + 9 * n + 6) 0) (35 + 9 * n + 7) (-6)) (35 + 9 * n + 8) 0
def zGA (z : Nat → Int32) (q sz fl pl : Int32) (i n : Nat) : Nat → Int32 := upd (upd (zG9 z q sz fl i n) (35 + 9 * n + 4) 0) (35 + 9 * n + 5) pl
set_option maxHeartbeats 4000000 in
def zThrow (z : Nat → Int32) (q sz : Int32) (i : Nat) : Nat → Int32 := upd (zGA z q sz (dF (zG4 z q sz i (mN (mz z)) 1)) (zPlace (mz (zG9 z q sz (dF (zG4 z q sz i (mN (mz z)) 1)) i (mN (mz z))))) i (mN (mz z))) 7 (zGA z q sz (dF (zG4 z q sz i (mN (mz z)) 1)) (zPlace (mz (zG9 z q sz (dF (zG4 z q sz i (mN (mz z)) 1)) i (mN (mz z))))) i (mN (mz z)) 7 + 1)
def wX7_doThrow (y : MS) (q sz : Int32) (i : Nat) : MS := mz (zThrow (y.1 0) q sz i)
theorem doThrow_e (z : Nat → Int32) (q sz : Int32) (i : Nat) : (wX7_doThrow (mz z) q sz i).1 0 = upd (zGA z q sz (dF (zG4 z q sz i (mN (mz z)) 1)) (zPlace (mz (zG9 z q sz (dF (zG4 z q sz i (mN (mz z)) 1)) i (mN (mz z))))) i (mN (mz z))) 7 (zGA z q sz (dF (zG4 z q sz i (mN (mz z)) 1)) (zPlace (mz (zG9 z q sz (dF (zG4 z q sz i (mN (mz z)) 1)) i (mN (mz z))))) i (mN (mz z)) 7 + 1) := rfl
theorem zTk_c {z z2 : Nat → Int32} {pl : Int32} : ∀ {m : Nat}, (∀ p, p < m → z2 (35 + 9 * p + 4) = z (35 + 9 * p + 4) ∧ z2 (35 + 9 * p + 5) = z (35 + 9 * p + 5)) → zTk z2 pl m = zTk z pl m
  | 0, _ => rfl
  | m + 1, h => by
    unfold zTk
    rw [zTk_c (fun p hp => h p (by omega)), (h m (by omega)).1, (h m (by omega)).2]
theorem zPlace_c {z z2 : Nat → Int32} {n : Nat} (h7 : z 7 = nI n) (h72 : z2 7 = nI n) (hn : n ≤ 20) (h : ∀ p, p < n → z2 (35 + 9 * p + 4) = z (35 + 9 * p + 4) ∧ z2 (35 + 9 * p + 5) = z (35 + 9 * p + 5)) : zPlace (mz z2) = zPlace (mz z) := by
  unfold zPlace
  refine congrArg nI (fnN_ext (fun j _ _ => ?_))
  unfold zFreeP
  rw [mzN h7 hn, mzN h72 hn]
  exact zTk_c h
theorem WRdi_new {n : Nat} {z z2 : Nat → Int32} (h : WRdi n z) (hz : ∀ p, p < n → z2 (35 + 9 * p + 4) = z (35 + 9 * p + 4) ∧ z2 (35 + 9 * p + 5) = z (35 + 9 * p + 5)) (hi : ∀ p, p < n → z (35 + 9 * p + 4) = 0 → z (35 + 9 * p + 5) ≠ z2 (35 + 9 * n + 5)) : WRdi (n + 1) z2 := fun p q hp hq hne h1 h2 => by
  by_cases e1 : p = n
  · subst e1
    rw [(hz q (by omega)).1] at h2
    rw [(hz q (by omega)).2]
    exact (hi q (by omega) h2).symm
  · rw [(hz p (by omega)).1] at h1
    rw [(hz p (by omega)).2]
    by_cases e2 : q = n
    · subst e2
      exact hi p (by omega) h1
    · rw [(hz q (by omega)).1] at h2
      rw [(hz q (by omega)).2]
      exact h p q (by omega) (by omega) hne h1 h2
set_option maxHeartbeats 4000000 in
theorem S_throw {K : Nat} {w : WS} {z : Nat → Int32} (h : WR K w z) (q sz : Int32) : Swk K w (vX5_throwClay w q sz) (wX5_throwClay w q sz) (vX7_noThrow (mz z) q sz) (vX7_doThrow (mz z) q sz (cl q)) ((wX7_doThrow (mz z) q sz (cl q)).1 0) := by
  obtain ⟨n, np, nt, hs, h1, h2, h3, h4, h5, h6, h7, h8, h9⟩ := h
  obtain ⟨⟨b1, b2, b3⟩, ⟨n1, n2⟩, ⟨p1, p2⟩, ⟨t1, t2⟩, x1, f1⟩ := id hs
  have hp : vX5_hasPupil w q = vX7_isPupil (mz z) q := hasP_eq p1 p2 (by omega)
  rw [doThrow_e]
  show Swk K w _ _ (if vX7_isPupil (mz z) q = true then (if isW sz 1 3 = true then (if zWh z q 0 5 < 0 then -5 else (if z (25 + cl q) = 1 then -5 else (if z 7 = 20 then -4 else (if vX7_freePlaces (mz z) = 0 then -4 else 0)))) else -2) else -1) (z 7) _
  unfold vX5_throwClay wX5_throwClay
  refine Swk_ite (by rw [hp]) (fun a => Swk_ite Iff.rfl (fun b => ?_) (fun _ => Swk_no (by decide))) (fun _ => Swk_no (by decide))
  obtain ⟨pu, hpu, rfl⟩ := (hasP_of p1 (by omega)).mp a
  obtain ⟨s, -, hsz, rfl⟩ := isW_of (lo := 1) (hi := 3) (by decide) (by decide) b
  have hwl : cWheel w (nI pu) 0 = zWh z (nI pu) 0 5 := wheel_n t1 b3 b2 h5 h6 (ah := 0) (by omega) (i6_n (by omega))
  obtain ⟨fr, c4, fr1, fr2, fr3⟩ := free_n (y := mz z) h7 h8 b1 n1 n2
  rw [hwl, thrown_n h4 (by omega), cl_n (by omega), fr]
  refine Swk_ite (zWh_6 (by decide)) (fun _ => Swk_no (by decide)) (fun _ => Swk_ite decide_eq_true_iff (fun _ => Swk_no (by decide)) (fun _ => Swk_ite ?_ (fun _ => Swk_no (by decide)) (fun e20 => Swk_ite Iff.rfl (fun _ => Swk_no (by decide)) (fun _ => ?_))))
  · rw [n1, n2, show (20 : Int32) = nI 20 from rfl, nI_leI (by decide) (by omega), nI_eq (by omega) (by decide)]; omega
  have hn20 : n < 20 := Nat.lt_of_not_le (fun x => e20 (by rw [n1]; exact (nI_leI (a := 20) (by decide) (by omega)).mpr x))
  rw [mzN n2 b1, addClay_e, drw_v, drw_w]
  -- the reference's row
  have g41 : zG4 z (nI pu) (nI s) pu n 1 = dX (z 1) := by
    unfold zG4
    rw [upd_o _ _ (by omega), upd_o _ _ (by omega), upd_o _ _ (by omega), upd_s]
  have hx : (cNote w (nI pu)).2 4 = z 1 := x1
  rw [g41, hx]
  have g9 : ∀ fl : Int32, ∀ i, i ≠ 1 → i ≠ 25 + pu → (i < 35 + 9 * n ∨ 35 + 9 * n + 9 ≤ i) → zG9 z (nI pu) (nI s) fl pu n i = z i := fun fl i i1 i2 i3 => by
    unfold zG9 zG4
    rw [upd_o _ _ (by omega), upd_o _ _ (by omega), upd_o _ _ (by omega), upd_o _ _ (by omega), upd_o _ _ (by omega), upd_o _ _ (by omega), upd_o _ _ (by omega), upd_o _ _ i2, upd_o _ _ i1]
  obtain ⟨j, hj, ej, dj⟩ := zPl_n n2 b1
  have hpl : zPlace (mz (zG9 z (nI pu) (nI s) (dF (dX (z 1))) pu n)) = nI j := (zPlace_c n2 ((g9 _ 7 (by omega) (by omega) (by omega)).trans n2) b1 (fun p hp => ⟨g9 _ _ (by omega) (by omega) (by omega), g9 _ _ (by omega) (by omega) (by omega)⟩)).trans ej
  rw [hpl]
  have gA7 : zGA z (nI pu) (nI s) (dF (dX (z 1))) (nI j) pu n 7 = nI n := by
    unfold zGA
    rw [upd_o _ _ (by omega), upd_o _ _ (by omega), g9 _ 7 (by omega) (by omega) (by omega)]; exact n2
  rw [gA7, nI_1]
  have hcp : cPlace (cTaken (wA6 (wSc (cNote w (nI pu)) 4 (dX (z 1))) (nI pu) (nI s) (dF (dX (z 1))))) = nI j := by
    have hX : cTaken (wA6 (wSc (cNote w (nI pu)) 4 (dX (z 1))) (nI pu) (nI s) (dF (dX (z 1)))) = cTaken w := cTaken_c rfl rfl
    rw [hX]
    exact (place_n (y := mz z) h7 b1 n1 n2).trans ej
  have zo : ∀ i, i ≠ 1 → i ≠ 7 → i ≠ 25 + pu → (i < 35 + 9 * n ∨ 35 + 9 * n + 9 ≤ i) → upd (zGA z (nI pu) (nI s) (dF (dX (z 1))) (nI j) pu n) 7 (nI (n + 1)) i = z i := fun i i1 i2 i3 i4 => by
    unfold zGA
    rw [upd_o _ _ i2, upd_o _ _ (by omega), upd_o _ _ (by omega), g9 _ i i1 i3 i4]
  have v7 : upd (zGA z (nI pu) (nI s) (dF (dX (z 1))) (nI j) pu n) 7 (nI (n + 1)) 7 = nI (n + 1) := upd_s _ _ _
  have v1 : upd (zGA z (nI pu) (nI s) (dF (dX (z 1))) (nI j) pu n) 7 (nI (n + 1)) 1 = dX (z 1) := by
    unfold zGA zG9 zG4
    simp only [upd, if_true, if_false]; repeat (first | rw [if_pos (by omega)] | rw [if_neg (by omega)])
  have v25 : upd (zGA z (nI pu) (nI s) (dF (dX (z 1))) (nI j) pu n) 7 (nI (n + 1)) (25 + pu) = 1 := by
    unfold zGA zG9 zG4
    simp only [upd, if_true, if_false]; repeat (first | rw [if_pos (by omega)] | rw [if_neg (by omega)])
  have k0 : upd (zGA z (nI pu) (nI s) (dF (dX (z 1))) (nI j) pu n) 7 (nI (n + 1)) (35 + 9 * n) = nI pu := by
    unfold zGA zG9 zG4
    simp only [upd, if_true, if_false]; repeat (first | rw [if_pos (by omega)] | rw [if_neg (by omega)])
  have k1 : upd (zGA z (nI pu) (nI s) (dF (dX (z 1))) (nI j) pu n) 7 (nI (n + 1)) (35 + 9 * n + 1) = nI s := by
    unfold zGA zG9 zG4
    simp only [upd, if_true, if_false]; repeat (first | rw [if_pos (by omega)] | rw [if_neg (by omega)])
  have k2 : upd (zGA z (nI pu) (nI s) (dF (dX (z 1))) (nI j) pu n) 7 (nI (n + 1)) (35 + 9 * n + 2) = dF (dX (z 1)) := by
    unfold zGA zG9 zG4
    simp only [upd, if_true, if_false]; repeat (first | rw [if_pos (by omega)] | rw [if_neg (by omega)])
  have k3 : upd (zGA z (nI pu) (nI s) (dF (dX (z 1))) (nI j) pu n) 7 (nI (n + 1)) (35 + 9 * n + 3) = 0 := by
    unfold zGA zG9 zG4
    simp only [upd, if_true, if_false]; repeat (first | rw [if_pos (by omega)] | rw [if_neg (by omega)])
  have k4 : upd (zGA z (nI pu) (nI s) (dF (dX (z 1))) (nI j) pu n) 7 (nI (n + 1)) (35 + 9 * n + 4) = 0 := by
    unfold zGA zG9 zG4
    simp only [upd, if_true, if_false]; repeat (first | rw [if_pos (by omega)] | rw [if_neg (by omega)])
  have k5 : upd (zGA z (nI pu) (nI s) (dF (dX (z 1))) (nI j) pu n) 7 (nI (n + 1)) (35 + 9 * n + 5) = nI j := by
    unfold zGA zG9 zG4
    simp only [upd, if_true, if_false]; repeat (first | rw [if_pos (by omega)] | rw [if_neg (by omega)])
  have k6 : upd (zGA z (nI pu) (nI s) (dF (dX (z 1))) (nI j) pu n) 7 (nI (n + 1)) (35 + 9 * n + 6) = 0 := by
    unfold zGA zG9 zG4
    simp only [upd, if_true, if_false]; repeat (first | rw [if_pos (by omega)] | rw [if_neg (by omega)])
  have k7 : upd (zGA z (nI pu) (nI s) (dF (dX (z 1))) (nI j) pu n) 7 (nI (n + 1)) (35 + 9 * n + 7) = -6 := by
    unfold zGA zG9 zG4
    simp only [upd, if_true, if_false]; repeat (first | rw [if_pos (by omega)] | rw [if_neg (by omega)])
  have k8 : upd (zGA z (nI pu) (nI s) (dF (dX (z 1))) (nI j) pu n) 7 (nI (n + 1)) (35 + 9 * n + 8) = 0 := by
    unfold zGA zG9 zG4
    simp only [upd, if_true, if_false]; repeat (first | rw [if_pos (by omega)] | rw [if_neg (by omega)])
  generalize upd (zGA z (nI pu) (nI s) (dF (dX (z 1))) (nI j) pu n) 7 (nI (n + 1)) = z2 at *
  -- the class's workshop
  obtain ⟨W2, eW⟩ : ∃ W2, W2 = wSc (cPutRack (wA6 (wSc (cNote w (nI pu)) 4 (dX (z 1))) (nI pu) (nI s) (dF (dX (z 1)))) ((wSc (cNote w (nI pu)) 4 (dX (z 1))).2 2)) 2 ((wSc (cNote w (nI pu)) 4 (dX (z 1))).2 2 + 1) := ⟨_, rfl⟩
  have r0 : W2.1 0 = w.1 0 := by rw [eW]; rfl
  have r1 : W2.1 1 = w.1 1 := by rw [eW]; rfl
  have r10 : W2.1 10 = w.1 10 := by rw [eW]; rfl
  have r11 : W2.1 11 = w.1 11 := by rw [eW]; rfl
  have r8 : W2.1 8 = w.1 8 := by rw [eW]; rfl
  have r2 : W2.1 2 = upd (w.1 2) n (nI pu) := by rw [eW, ← rPut_n (n := 20) (p := n) hn20 (by decide), ← n1]; rfl
  have r3 : W2.1 3 = upd (w.1 3) n (nI s) := by rw [eW, ← rPut_n (n := 20) (p := n) hn20 (by decide), ← n1]; rfl
  have r4 : W2.1 4 = upd (w.1 4) n (dF (dX (z 1))) := by rw [eW, ← rPut_n (n := 20) (p := n) hn20 (by decide), ← n1]; rfl
  have r5 : W2.1 5 = upd (w.1 5) n 0 := by rw [eW, ← rPut_n (n := 20) (p := n) hn20 (by decide), ← n1]; rfl
  have r7 : W2.1 7 = upd (w.1 7) n 0 := by rw [eW, ← rPut_n (n := 20) (p := n) hn20 (by decide), ← n1]; rfl
  have r9 : W2.1 9 = upd (w.1 9) n 0 := by rw [eW, ← rPut_n (n := 20) (p := n) hn20 (by decide), ← n1]; rfl
  have r6 : W2.1 6 = upd (w.1 6) n (nI j) := by rw [eW, ← rPut_n (n := 20) (p := n) hn20 (by decide), ← n1, ← hcp]; rfl
  have s0 : W2.2 0 = w.2 0 := by rw [eW]; rfl
  have s1 : W2.2 1 = w.2 1 ||| ((1 : Int32) <<< (nI pu &&& 31)) := by rw [eW]; rfl
  have s2 : W2.2 2 = nI (n + 1) := by rw [eW, ← nI_1, ← n1]; rfl
  have s3 : W2.2 3 = w.2 3 := by rw [eW]; rfl
  have s4 : W2.2 4 = dX (z 1) := by rw [eW]; rfl
  have s5 : W2.2 5 = w.2 5 := by rw [eW]; rfl
  rw [← eW]
  have hro : ∀ r p, 2 ≤ r → r ≤ 9 → p ≠ n → W2.1 r p = w.1 r p := fun r p h1 h2 h3 => by
    rcases (show r = 2 ∨ r = 3 ∨ r = 4 ∨ r = 5 ∨ r = 6 ∨ r = 7 ∨ r = 8 ∨ r = 9 by omega) with rfl | rfl | rfl | rfl | rfl | rfl | rfl | rfl
    · rw [r2, upd_o _ _ h3]
    · rw [r3, upd_o _ _ h3]
    · rw [r4, upd_o _ _ h3]
    · rw [r5, upd_o _ _ h3]
    · rw [r6, upd_o _ _ h3]
    · rw [r7, upd_o _ _ h3]
    · rw [r8]
    · rw [r9, upd_o _ _ h3]
  refine Or.inr ⟨rfl, ?_, ?_, n + 1, np, nt, ⟨⟨by omega, b2, b3⟩, ⟨s2, v7⟩, ⟨s3.trans p1, (zo 6 (by omega) (by omega) (by omega) (by omega)).trans p2⟩, ⟨s0.trans t1, (zo 0 (by omega) (by omega) (by omega) (by omega)).trans t2⟩, s4.trans v1.symm, s5.trans (f1.trans (zo 8 (by omega) (by omega) (by omega) (by omega)).symm)⟩, WRset_c h1 (fun i _ => congrFun r0 i) (fun i hi => zo _ (by omega) (by omega) (by omega) (by omega)), WRgl_c h2 (fun i _ => congrFun r10 i) (fun i hi => zo _ (by omega) (by omega) (by omega) (by omega)), WRfee_c h3 (fun i _ => congrFun r11 i) (fun i hi => zo _ (by omega) (by omega) (by omega) (by omega)) (zo _ (by omega) (by omega) (by omega) (by omega)), ?_, WRbk_c h5 (fun i _ => congrFun r1 i) (fun i hi => zo _ (by omega) (by omega) (by omega) (by omega)), WRun_c h6 (fun i hi => zo _ (by omega) (by omega) (by omega) (by omega)), ?_, ?_, ?_⟩
  · exact n1.trans n2.symm
  · show 0 ≤ w.2 2
    rw [n1]; exact nI_pos' (by omega)
  · show W2.2 1 = _
    rw [s1, h4, mk_set _ (by decide) (show pu < 10 by omega)]
    refine mk_cong (fun k hk => ?_)
    by_cases e : k = pu
    · subst e; rw [v25]; simp
    · rw [zo _ (by omega) (by omega) (by omega) (by omega), decide_eq_false e, Bool.false_or]
  · intro p hp
    by_cases e : p = n
    · subst e
      refine ⟨⟨?_, pu, hpu, k0⟩, ⟨?_, s, hsz, k1⟩, ?_, ⟨?_, 0, by omega, k6⟩, ⟨?_, 0, by omega, k8⟩, 0, by omega, ⟨?_, k3⟩, Or.inl ⟨k4, j, by omega, ?_, k5⟩, fun x => ?_, fun _ => k7⟩
      · rw [r2, upd_s, k0]
      · rw [r3, upd_s, k1]
      · rw [r4, upd_s, k2]
      · rw [r7, upd_s, k6]
      · rw [r9, upd_s, k8]
      · rw [r5, upd_s]; rfl
      · rw [r6, upd_s]
      · rcases x with x | x <;> omega
    · exact PT_c (h7 p (by omega)) (Nat.le_add_right _ _) (Nat.le_refl _) (Nat.le_refl _) (fun r q1 q2 => hro r p q1 q2 e) (fun i hi => zo _ (by omega) (by omega) (by omega) (by omega))
  · refine WRdi_new h8 (fun p hp => ⟨zo _ (by omega) (by omega) (by omega) (by omega), zo _ (by omega) (by omega) (by omega) (by omega)⟩) (fun p hp e => ?_)
    rw [k5]; exact dj p hp e
  · show z2 9 = nI (fb_ct (fun p => decide (z2 (35 + 9 * p + 3) = 4)) n + if decide (z2 (35 + 9 * n + 3) = 4) = true then 1 else 0)
    rw [k3, zo 9 (by omega) (by omega) (by omega) (by omega), h9, decide_eq_false (by decide), if_neg (by decide), Nat.add_zero]
    exact congrArg nI (fb_ct_cong (fun p hp => by rw [zo _ (by omega) (by omega) (by omega) (by omega)]))
