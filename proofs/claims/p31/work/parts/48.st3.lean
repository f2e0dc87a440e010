/-! glaze, fill, takeHome, throwPot -/
theorem gl_neg (a b : Int32) : a + -b = a - b := (Int32.sub_eq_add_neg a b).symm
theorem kd_n {K np nt : Nat} {w : WS} {z : Nat → Int32} {p kd : Nat} (h : PT K np nt w z p) (hk : kd ≤ 4) (e : z (35 + 9 * p + 3) = nI kd) : w.1 5 p = nI kd ∧ SP (w.1 6 p) (z (35 + 9 * p + 4)) (z (35 + 9 * p + 5)) kd ∧ ((kd = 2 ∨ kd = 3) → w.1 8 p = z (35 + 9 * p + 7)) ∧ (¬ (kd = 2 ∨ kd = 3) → z (35 + 9 * p + 7) = -6) := by
  obtain ⟨-, -, -, -, -, k2, k1, ⟨k3, k4⟩, k5⟩ := h
  rw [k4] at e
  have e := (nI_eq (a := k2) (b := kd) (by omega) (by omega)).mp e
  subst e
  exact ⟨k3, k5⟩
theorem SP_rack {sp wh pl : Int32} {kd kd2 : Nat} (h : SP sp wh pl kd) (h0 : wh = 0) : SP sp wh pl kd2 := by
  rcases h with a | ⟨a, -⟩ | ⟨a, -⟩
  · exact Or.inl a
  · rw [h0] at a; exact absurd a (by decide)
  · rw [h0] at a; exact absurd a (by decide)
theorem S_glaze {K : Nat} {w : WS} {z : Nat → Int32} (h : WR K w z) (q gl : Int32) : Swk K w (vX5_glazePot w q gl) (wX5_glazePot w q gl) (vX7_noGlaze (mz z) q gl) (vX7_doGlaze (mz z) q gl (cl q) (cl gl)) ((wX7_doGlaze (mz z) q gl (cl q) (cl gl)).1 0) := by
  obtain ⟨n, np, nt, hs, h1, h2, h3, h4, h5, h6, h7, h8, h9⟩ := h
  obtain ⟨⟨b1, b2, b3⟩, ⟨n1, n2⟩, ⟨p1, p2⟩, ⟨t1, t2⟩, x1, f1⟩ := id hs
  have hp : cHas w q = vX7_isPot (mz z) q := cHas_eq n1 n2 (by omega)
  show Swk K w _ _ (if vX7_isPot (mz z) q = true then (if isW gl 0 3 = true then (if z (35 + 9 * cl q + 3) = 1 then (if z (35 + 9 * cl q + 4) = 0 then (if z (11 + cl gl) < z (35 + 9 * cl q + 1) then -5 else 0) else -5) else -5) else -1) else -1) (upd (upd (upd z (11 + cl gl) (z (11 + cl gl) - z (35 + 9 * cl q + 1))) (35 + 9 * cl q + 3) 2) (35 + 9 * cl q + 7) gl (11 + cl gl)) (upd (upd (upd z (11 + cl gl) (z (11 + cl gl) - z (35 + 9 * cl q + 1))) (35 + 9 * cl q + 3) 2) (35 + 9 * cl q + 7) gl)
  unfold vX5_glazePot wX5_glazePot
  refine Swk_ite (by rw [hp]) (fun a => Swk_ite Iff.rfl (fun b => ?_) (fun _ => Swk_no (by decide))) (fun _ => Swk_no (by decide))
  obtain ⟨p, hpn, rfl⟩ := (cHas_of n1 (by omega)).mp a
  obtain ⟨j, -, hj, rfl⟩ := isW_of (lo := 0) (hi := 3) (by decide) (by decide) b
  rw [cl_n (p := p) (by omega), cl_n (p := j) (by omega), pt_isk h7 b1 hpn, pt_rack h7 b1 hpn]
  refine Swk_ite decide_eq_true_iff (fun c => Swk_ite decide_eq_true_iff (fun d => ?_) (fun _ => Swk_no (by decide))) (fun _ => Swk_no (by decide))
  have c := of_decide_eq_true c
  have d := of_decide_eq_true d
  rw [pt_size h7 b1 hpn, show rAt 4 (w.1 10) (nI j) = z (11 + j) from (rAt_n (by omega) (by decide)).trans (h2 j (by omega)).1]
  refine Swk_itn (Int32.not_lt).symm (fun e => ?_) (fun _ => Swk_no (by decide))
  obtain ⟨-, g, g1, g2⟩ := h2 j (by omega)
  obtain ⟨-, s, s1, s2⟩ := (h7 p hpn).2.1
  have hsg : s ≤ g := by rw [g2, s2] at e; exact (nI_leI (by omega) (by omega)).mp e
  have ev : z (11 + j) + -z (35 + 9 * p + 1) = nI (g - s) := by rw [gl_neg, g2, s2, pk_sub hsg]
  have ev2 : z (11 + j) - z (35 + 9 * p + 1) = nI (g - s) := by rw [g2, s2, pk_sub hsg]
  rw [ev, ev2, rPut_n (by omega) (by decide)]
  have hw : ∀ (X : WS), wRow (wRow (wRow w 10 (upd (w.1 10) j (nI (g - s)))) 5 (rPut 20 ((wRow w 10 (upd (w.1 10) j (nI (g - s)))).1 5) (nI p) 2)) 8 (rPut 20 ((wRow (wRow w 10 (upd (w.1 10) j (nI (g - s)))) 5 (rPut 20 ((wRow w 10 (upd (w.1 10) j (nI (g - s)))).1 5) (nI p) 2)).1 8) (nI p) (nI j)) = wRow (wRow (wRow w 10 (upd (w.1 10) j (nI (g - s)))) 5 (upd (w.1 5) p 2)) 8 (upd (w.1 8) p (nI j)) := fun _ => by
    rw [rPut_n (by omega) (by decide), rPut_n (by omega) (by decide)]; rfl
  rw [hw w]
  have zo : ∀ i, i ≠ 11 + j → i ≠ 35 + 9 * p + 3 → i ≠ 35 + 9 * p + 7 → upd (upd (upd z (11 + j) (nI (g - s))) (35 + 9 * p + 3) 2) (35 + 9 * p + 7) (nI j) i = z i := fun i i1 i2 i3 => by rw [upd_o _ _ i3, upd_o _ _ i2, upd_o _ _ i1]
  have zj : upd (upd (upd z (11 + j) (nI (g - s))) (35 + 9 * p + 3) 2) (35 + 9 * p + 7) (nI j) (11 + j) = nI (g - s) := by rw [upd_o _ _ (by omega), upd_o _ _ (by omega), upd_s]
  refine Or.inr ⟨rfl, ?_, ?_, n, np, nt, WRs_c hs (fun _ _ _ => rfl) (fun i hi => zo i (by omega) (by omega) (by omega)), WRset_c h1 (fun _ _ => rfl) (fun i hi => zo _ (by omega) (by omega) (by omega)), ?_, WRfee_c h3 (fun _ _ => rfl) (fun i hi => zo _ (by omega) (by omega) (by omega)) (zo _ (by omega) (by omega) (by omega)), WRthr_c h4 rfl (fun i hi => zo _ (by omega) (by omega) (by omega)), WRbk_c h5 (fun _ _ => rfl) (fun i hi => zo _ (by omega) (by omega) (by omega)), WRun_c h6 (fun i hi => zo _ (by omega) (by omega) (by omega)), ?_, ?_, WRbr_1 h9 (fun p2 hp2 => ?_) (zo _ (by omega) (by omega) (by omega))⟩
  · show rAt 4 (upd (w.1 10) j (nI (g - s))) (nI j) = _
    rw [rAt_n (by omega) (by decide), upd_s, zj]
  · show 0 ≤ rAt 4 (upd (w.1 10) j (nI (g - s))) (nI j)
    rw [rAt_n (by omega) (by decide), upd_s]
    exact nI_pos' (by omega)
  · intro i hi
    show upd (w.1 10) j (nI (g - s)) i = _ ∧ _
    by_cases ei : i = j
    · subst ei
      rw [upd_s, zj]
      exact ⟨rfl, _, by omega, rfl⟩
    · rw [upd_o _ _ ei, zo _ (by omega) (by omega) (by omega)]
      exact h2 i hi
  · refine WRpt_1 (i := p) h7 b1 (Nat.le_add_right _ _) (fun r p2 r1 r2 r3 r4 => ?_) (fun p2 k r3 r4 r5 => zo _ (by omega) (by omega) (by omega)) ?_
    · show va_up (va_up (va_up w.1 10 _) 5 (upd (w.1 5) p 2)) 8 (upd (w.1 8) p (nI j)) r p2 = _
      by_cases e8 : r = 8
      · subst e8; rw [va_up_at, upd_o _ _ r4]
      · rw [va_up_of _ e8]
        by_cases e5 : r = 5
        · subst e5; rw [va_up_at, upd_o _ _ r4]
        · rw [va_up_of _ e5, va_up_of _ (by omega)]
    · obtain ⟨-, -, -, ⟨d1, d2⟩, ⟨e1, q4, e2, e3⟩, -⟩ := id (h7 p hpn)
      obtain ⟨k3, k4, k5, k6⟩ := kd_n (h7 p hpn) (kd := 1) (by omega) c
      refine PT_u (h7 p hpn) (Nat.le_refl _) rfl rfl rfl (fun k hk => zo _ (by omega) (by omega) (by omega)) ?_ ?_ ⟨2, by omega, ⟨upd_s _ _ _, ?_⟩, ?_, fun _ => ?_, fun x => absurd (Or.inl rfl) x⟩
      · rw [zo _ (by omega) (by omega) (by omega)]; exact ⟨d1, d2⟩
      · rw [zo _ (by omega) (by omega) (by omega)]; exact ⟨e1, q4, by omega, e3⟩
      · rw [upd_o _ _ (by omega), upd_s]; rfl
      · rw [zo _ (by omega) (by omega) (by omega), zo _ (by omega) (by omega) (by omega)]
        exact SP_rack k4 d
      · show upd (w.1 8) p (nI j) p = _
        rw [upd_s, upd_s]
  · refine WRdi_1 (i := p) h8 b1 (fun p2 k r3 r4 r5 => zo _ (by omega) (by omega) (by omega)) (fun e p2 r1 r2 r3 => ?_)
    rw [zo _ (by omega) (by omega) (by omega)]
    exact h8 p2 p r1 hpn r2 r3 d
  · by_cases e2 : p2 = p
    · subst e2
      rw [upd_o _ _ (by omega), upd_s, c]
      rfl
    · rw [zo _ (by omega) (by omega) (by omega)]
/-! fill -/
def zNoFill (gl pt : Int32) : Int32 := if isW gl 0 3 = true then (if isW pt 1 99 = true then 0 else -2) else -1
def zFill (z : Nat → Int32) (gl pt : Int32) : Int32 := if z (11 + cl gl) + pt ≤ 99 then z (11 + cl gl) + pt else 99
theorem S_fill {K : Nat} {w : WS} {z : Nat → Int32} (h : WR K w z) (gl pt : Int32) : Swk K w (vX5_fillGlaze w gl pt) (wX5_fillGlaze w gl pt) (zNoFill gl pt) (zFill z gl pt) (upd z (11 + cl gl) (zFill z gl pt)) := by
  obtain ⟨n, np, nt, hs, h1, h2, h3, h4, h5, h6, h7, h8, h9⟩ := h
  obtain ⟨⟨b1, b2, b3⟩, ⟨n1, n2⟩, ⟨p1, p2⟩, ⟨t1, t2⟩, x1, f1⟩ := id hs
  unfold vX5_fillGlaze wX5_fillGlaze zNoFill
  refine Swk_ite Iff.rfl (fun a => Swk_ite Iff.rfl (fun b => ?_) (fun _ => Swk_no (by decide))) (fun _ => Swk_no (by decide))
  obtain ⟨j, -, hj, rfl⟩ := isW_of (lo := 0) (hi := 3) (by decide) (by decide) a
  obtain ⟨u, -, hu, rfl⟩ := isW_of (lo := 1) (hi := 99) (by decide) (by decide) b
  obtain ⟨-, g, g1, g2⟩ := h2 j (by omega)
  have ex : (if 99 < rAt 4 (w.1 10) (nI j) + nI u then 99 else rAt 4 (w.1 10) (nI j) + nI u) = zFill z (nI j) (nI u) := by
    unfold zFill
    rw [show rAt 4 (w.1 10) (nI j) = z (11 + j) from (rAt_n (by omega) (by decide)).trans (h2 j (by omega)).1, cl_n (by omega)]
    by_cases e : z (11 + j) + nI u ≤ 99
    · rw [if_pos e, if_neg (Int32.not_lt.mpr e)]
    · rw [if_neg e, if_pos (Int32.not_le.mp e)]
  obtain ⟨c, hc, ec⟩ : ∃ c : Nat, c ≤ 99 ∧ zFill z (nI j) (nI u) = nI c := by
    unfold zFill
    rw [cl_n (by omega), g2, nI_add]
    by_cases e : nI (g + u) ≤ 99
    · rw [if_pos e]
      exact ⟨_, (nI_leI (b := 99) (by omega) (by decide)).mp e, rfl⟩
    · rw [if_neg e]
      exact ⟨99, by omega, rfl⟩
  rw [ex, ec, cl_n (by omega), rPut_n (by omega) (by decide)]
  have zo : ∀ i, i ≠ 11 + j → upd z (11 + j) (nI c) i = z i := fun i i1 => upd_o _ _ i1
  refine Or.inr ⟨rfl, ?_, ?_, n, np, nt, WRs_c hs (fun _ _ _ => rfl) (fun i hi => zo i (by omega)), WRset_c h1 (fun _ _ => rfl) (fun i hi => zo _ (by omega)), fun i hi => ?_, WRfee_c h3 (fun _ _ => rfl) (fun i hi => zo _ (by omega)) (zo _ (by omega)), WRthr_c h4 rfl (fun i hi => zo _ (by omega)), WRbk_c h5 (fun _ _ => rfl) (fun i hi => zo _ (by omega)), WRun_c h6 (fun i hi => zo _ (by omega)), WRpt_c h7 b1 (Nat.le_add_right _ _) (Nat.le_refl _) (Nat.le_refl _) (fun r r1 r2 p hp => congrFun (va_up_of _ (by omega) _) p) (fun i i1 i2 => zo _ (by omega)), WRdi_c h8 b1 (fun i i1 i2 => zo _ (by omega)), WRbr_c h9 b1 (fun i i1 i2 => zo _ (by omega)) (zo _ (by omega))⟩
  · show rAt 4 (upd (w.1 10) j (nI c)) (nI j) = _
    rw [rAt_n (by omega) (by decide), upd_s]
  · show 0 ≤ rAt 4 (upd (w.1 10) j (nI c)) (nI j)
    rw [rAt_n (by omega) (by decide), upd_s]
    exact nI_pos' (by omega)
  · show upd (w.1 10) j (nI c) i = upd z (11 + j) (nI c) (11 + i) ∧ _
    by_cases ei : i = j
    · subst ei
      rw [upd_s, upd_s]
      exact ⟨rfl, c, hc, rfl⟩
    · rw [upd_o _ _ ei, upd_o _ _ (by omega)]
      exact h2 i hi
/-! takeHome -/
theorem suI_up (g : Nat → Int32) (x : Int32) {a : Nat} : ∀ {n : Nat}, a < n → suI (fun i => if i = a then g a + x else g i) n = suI g n + x
  | 0, h => absurd h (Nat.not_lt_zero _)
  | n + 1, h => by
    show suI (fun i => if i = a then g a + x else g i) n + (if n = a then g a + x else g n) = suI g n + g n + x
    by_cases e : n = a
    · subst e
      rw [if_pos rfl, suI_cong (f := fun i => if i = n then g n + x else g i) (g := g) (fun k hk => if_neg (by omega)), Int32.add_assoc]
    · rw [if_neg e, suI_up g x (by omega), Int32.add_assoc, Int32.add_assoc, Int32.add_comm x]
def zHome (z : Nat → Int32) (p : Nat) : Nat → Int32 := upd (upd (upd (upd z (35 + 9 * p + 4) 2) (35 + 9 * p + 5) (-6)) 10 (z 10 + z 5 * z (35 + 9 * p + 1))) (15 + cl (z (35 + 9 * p))) (z (15 + cl (z (35 + 9 * p))) + z 5 * z (35 + 9 * p + 1))
theorem zHome_e {z : Nat → Int32} {p : Nat} (q : Int32) (h : cl (z (35 + 9 * p)) < 10) : (wX7_doTakeHome (mz z) q p).1 0 = zHome z p := by
  show upd (upd (upd (upd z (35 + 9 * p + 4) 2) (35 + 9 * p + 5) (-6)) 10 ((upd (upd z (35 + 9 * p + 4) 2) (35 + 9 * p + 5) (-6)) 10 + z 5 * z (35 + 9 * p + 1))) (15 + cl (z (35 + 9 * p))) ((upd (upd (upd z (35 + 9 * p + 4) 2) (35 + 9 * p + 5) (-6)) 10 ((upd (upd z (35 + 9 * p + 4) 2) (35 + 9 * p + 5) (-6)) 10 + z 5 * z (35 + 9 * p + 1))) (15 + cl (z (35 + 9 * p))) + z 5 * z (35 + 9 * p + 1)) = _
  have e1 : (upd (upd z (35 + 9 * p + 4) 2) (35 + 9 * p + 5) (-6)) 10 = z 10 := by rw [upd_o _ _ (by omega), upd_o _ _ (by omega)]
  rw [e1]
  have e2 : (upd (upd (upd z (35 + 9 * p + 4) 2) (35 + 9 * p + 5) (-6)) 10 (z 10 + z 5 * z (35 + 9 * p + 1))) (15 + cl (z (35 + 9 * p))) = z (15 + cl (z (35 + 9 * p))) := by rw [upd_o _ _ (by omega), upd_o _ _ (by omega), upd_o _ _ (by omega)]
  rw [e2]
  rfl
theorem S_home {K : Nat} {w : WS} {z : Nat → Int32} (h : WR K w z) (q : Int32) : Swk K w (vX5_handOver w q) (wX5_handOver w q) (vX7_noTakeHome (mz z) q) (vX7_doTakeHome (mz z) q (cl q)) ((wX7_doTakeHome (mz z) q (cl q)).1 0) := by
  obtain ⟨n, np, nt, hs, h1, h2, h3, h4, h5, h6, h7, h8, h9⟩ := h
  obtain ⟨⟨b1, b2, b3⟩, ⟨n1, n2⟩, ⟨p1, p2⟩, ⟨t1, t2⟩, x1, f1⟩ := id hs
  have hp : cHas w q = vX7_isPot (mz z) q := cHas_eq n1 n2 (by omega)
  show Swk K w _ _ (if vX7_isPot (mz z) q = true then (if z (35 + 9 * cl q + 3) = 3 then (if z (35 + 9 * cl q + 4) = 0 then 0 else -5) else -5) else -1) (z 5 * z (35 + 9 * cl q + 1)) _
  unfold vX5_handOver wX5_handOver
  refine Swk_ite (by rw [hp]) (fun a => ?_) (fun _ => Swk_no (by decide))
  obtain ⟨p, hpn, rfl⟩ := (cHas_of n1 (by omega)).mp a
  rw [cl_n (p := p) (by omega), pt_isk h7 b1 hpn, pt_rack h7 b1 hpn]
  refine Swk_ite decide_eq_true_iff (fun c => Swk_ite decide_eq_true_iff (fun d => ?_) (fun _ => Swk_no (by decide))) (fun _ => Swk_no (by decide))
  have c := of_decide_eq_true c
  have d := of_decide_eq_true d
  obtain ⟨-, pu, u1, u2⟩ := (h7 p hpn).1
  have hpu : cl (z (35 + 9 * p)) = pu := by rw [u2]; exact cl_n (by omega)
  rw [zHome_e _ (by rw [hpu]; omega)]
  have e5 : rAt 4 (w.1 0) 3 = z 5 := (rAt_n (n := 4) (p := 3) (by decide) (by decide)).trans (h1 3 (by decide)).1
  rw [pt_size h7 b1 hpn, pt_pupil h7 b1 hpn, e5, u2]
  have r10 : rAt 10 (w.1 11) (nI pu) = z (15 + pu) := (rAt_n (by omega) (by decide)).trans (h3.1 pu (by omega))
  rw [r10, rPut_n (p := pu) (by omega) (by decide), rPut_n (by omega) (by decide)]
  unfold zHome
  rw [hpu]
  obtain ⟨-, fe, fe1, fe2⟩ := h1 3 (by decide)
  have fe2 : z 5 = nI fe := fe2
  obtain ⟨-, s, s1, s2⟩ := (h7 p hpn).2.1
  have hfee : z 5 * z (35 + 9 * p + 1) = nI (fe * s) := by rw [fe2, s2, pk_mul]
  have hfs : fe * s ≤ 140 * 3 := Nat.mul_le_mul fe1 s1
  rw [hfee]
  generalize fe * s = F at hfs hfee ⊢
  have zo : ∀ i, i ≠ 35 + 9 * p + 4 → i ≠ 35 + 9 * p + 5 → i ≠ 10 → i ≠ 15 + pu → upd (upd (upd (upd z (35 + 9 * p + 4) 2) (35 + 9 * p + 5) (-6)) 10 (z 10 + nI F)) (15 + pu) (z (15 + pu) + nI F) i = z i := fun i i1 i2 i3 i4 => by rw [upd_o _ _ i4, upd_o _ _ i3, upd_o _ _ i2, upd_o _ _ i1]
  refine Or.inr ⟨rfl, rfl, nI_pos' (by omega), n, np, nt, WRs_c hs (fun _ _ _ => rfl) (fun i hi => zo i (by omega) (by omega) (by omega) (by omega)), WRset_c h1 (fun _ _ => rfl) (fun i hi => zo _ (by omega) (by omega) (by omega) (by omega)), WRgl_c h2 (fun _ _ => rfl) (fun i hi => zo _ (by omega) (by omega) (by omega) (by omega)), ⟨fun i hi => ?_, ?_⟩, WRthr_c h4 rfl (fun i hi => zo _ (by omega) (by omega) (by omega) (by omega)), WRbk_c h5 (fun _ _ => rfl) (fun i hi => zo _ (by omega) (by omega) (by omega) (by omega)), WRun_c h6 (fun i hi => zo _ (by omega) (by omega) (by omega) (by omega)), ?_, ?_, WRbr_1 h9 (fun p2 hp2 => by rw [zo _ (by omega) (by omega) (by omega) (by omega)]) (zo _ (by omega) (by omega) (by omega) (by omega))⟩
  · show upd (w.1 11) pu (z (15 + pu) + nI F) i = _
    by_cases e : i = pu
    · subst e; rw [upd_s, upd_s]
    · rw [upd_o _ _ e, zo _ (by omega) (by omega) (by omega) (by omega)]; exact h3.1 i hi
  · have e10 : z 10 + nI F = suI (fun i => if i = pu then z (15 + pu) + nI F else z (15 + i)) 10 := (congrArg (fun x => x + nI F) h3.2).trans (suI_up (fun i => z (15 + i)) (nI F) (a := pu) (n := 10) (by omega)).symm
    rw [upd_o _ _ (by omega), upd_s]
    refine e10.trans (suI_cong (fun k hk => ?_))
    by_cases e : k = pu
    · subst e; rw [if_pos rfl, upd_s]
    · rw [if_neg e, zo _ (by omega) (by omega) (by omega) (by omega)]
  · refine WRpt_1 (i := p) h7 b1 (Nat.le_add_right _ _) (fun r p2 r1 r2 r3 r4 => ?_) (fun p2 k r3 r4 r5 => zo _ (by omega) (by omega) (by omega) (by omega)) ?_
    · show va_up (va_up w.1 11 _) 6 (upd (w.1 6) p 25) r p2 = _
      by_cases e : r = 6
      · subst e; rw [va_up_at, upd_o _ _ r4]
      · rw [va_up_of _ e, va_up_of _ (by omega)]
    · obtain ⟨-, -, -, ⟨d1, d2⟩, ⟨e1, q4, e2, e3⟩, -⟩ := id (h7 p hpn)
      obtain ⟨k3, k4, k5, k6⟩ := kd_n (h7 p hpn) (kd := 3) (by omega) c
      refine PT_u (h7 p hpn) (Nat.le_refl _) rfl rfl rfl (fun k hk => zo _ (by omega) (by omega) (by omega) (by omega)) ?_ ?_ ⟨3, by omega, ⟨k3, ?_⟩, Or.inr (Or.inr ⟨?_, upd_s _ _ _, Or.inl rfl⟩), fun x => ?_, fun x => absurd (Or.inr rfl) x⟩
      · rw [zo _ (by omega) (by omega) (by omega) (by omega)]; exact ⟨d1, d2⟩
      · rw [zo _ (by omega) (by omega) (by omega) (by omega)]; exact ⟨e1, q4, by omega, e3⟩
      · rw [zo _ (by omega) (by omega) (by omega) (by omega)]; exact c
      · rw [upd_o _ _ (by omega), upd_o _ _ (by omega), upd_o _ _ (by omega), upd_s]
      · rw [zo _ (by omega) (by omega) (by omega) (by omega)]; exact k5 x
  · refine WRdi_1 (i := p) h8 b1 (fun p2 k r3 r4 r5 => zo _ (by omega) (by omega) (by omega) (by omega)) (fun e => ?_)
    rw [upd_o _ _ (by omega), upd_o _ _ (by omega), upd_o _ _ (by omega), upd_s] at e
    exact absurd e (by decide)
