/-! questions -/
theorem Q_of {K : Nat} {w : WS} {z : Nat → Int32} (h : WR K w z) (hK : K < 2 ^ 31) (q what : Int32) : vX5_factOfPot w q what = vX7_of (mz z) q what := by
  obtain ⟨n, np, nt, hs, h1, h2, h3, h4, h5, h6, h7, h8, h9⟩ := h
  obtain ⟨⟨b1, b2, b3⟩, ⟨n1, n2⟩, ⟨p1, p2⟩, ⟨t1, t2⟩, x1, f1⟩ := id hs
  have hp : cHas w q = vX7_isPot (mz z) q := cHas_eq n1 n2 (by omega)
  by_cases hc : cHas w q = true
  · obtain ⟨p, hpn, rfl⟩ := (cHas_of n1 (by omega)).mp hc
    show _ = (if vX7_isPot (mz z) (nI p) = true then (if what = 0 then z (35 + 9 * cl (nI p)) else (if what = 1 then z (35 + 9 * cl (nI p) + 1) else (if what = 2 then z (35 + 9 * cl (nI p) + 3) else (if what = 3 then z (35 + 9 * cl (nI p) + 4) else (if what = 4 then (if z (35 + 9 * cl (nI p) + 4) = 0 then z (35 + 9 * cl (nI p) + 5) else -6) else (if what = 5 then z (35 + 9 * cl (nI p) + 6) else (if what = 6 then (if z (35 + 9 * cl (nI p) + 8) ≤ 0 then -6 else z (35 + 9 * cl (nI p) + 2)) else (if what = 7 then z (35 + 9 * cl (nI p) + 7) else (if what = 8 then z (35 + 9 * cl (nI p) + 8) else -2))))))))) else -1)
    unfold vX5_factOfPot
    rw [if_pos hc, if_pos (show vX7_isPot (mz z) (nI p) = true by rw [← hp]; exact hc), cl_n (by omega)]
    obtain ⟨-, -, -, -, ⟨-, q4, e2, e3⟩, kd, k1, ⟨k2, k3⟩, k4, k5, k6⟩ := id (h7 p hpn)
    have e3' : (if cRack w (nI p) = true then (0 : Int32) else if cKiln w (nI p) = true then 1 else 2) = z (35 + 9 * p + 4) := by
      rw [pt_rack h7 b1 hpn, pt_kiln h7 b1 hpn]
      rcases k4 with ⟨a, -⟩ | ⟨a, -⟩ | ⟨a, -⟩
      · rw [a]; rfl
      · rw [a]; rfl
      · rw [a]; rfl
    have e4 : (if cRack w (nI p) = true then rAt 20 (w.1 6) (nI p) else -6) = if z (35 + 9 * p + 4) = 0 then z (35 + 9 * p + 5) else -6 := by
      rw [pt_rack h7 b1 hpn]
      by_cases a : z (35 + 9 * p + 4) = 0
      · rw [decide_eq_true a, if_pos rfl, if_pos a, (pt_beside h7 b1 hpn a).2]
      · rw [decide_eq_false a, if_neg (by decide), if_neg a]
    have e6 : (if rAt 20 (w.1 9) (nI p) = 0 then -6 else rAt 20 (w.1 4) (nI p)) = if z (35 + 9 * p + 8) ≤ 0 then -6 else z (35 + 9 * p + 2) := by
      rw [pt_fired h7 b1 hpn, pt_fault h7 b1 hpn, e3]
      by_cases a : q4 = 0
      · subst a; rw [if_pos (by decide), if_pos (by decide)]
      · rw [if_neg (show ¬ nI q4 = 0 from fun x => a ((nI_eq (b := 0) (by omega) (by decide)).mp x)), if_neg (show ¬ nI q4 ≤ 0 from fun x => a (by have := (nI_leI (a := q4) (b := 0) (by omega) (by decide)).mp x; omega))]
    rw [e3', e4, e6, pt_pupil h7 b1 hpn, pt_size h7 b1 hpn, pt_kind h7 b1 hpn, pt_dried h7 b1 hpn, pt_fired h7 b1 hpn, pt_isk h7 b1 hpn, pt_isk h7 b1 hpn]
    have k8 : rAt 20 (w.1 8) (nI p) = w.1 8 p := rAt_n (by omega) (by decide)
    rw [k8]
    by_cases a : z (35 + 9 * p + 3) = 2
    · rw [decide_eq_true a, if_pos rfl, k5 (Or.inl ((nI_eq (b := 2) (by omega) (by decide)).mp (k3.symm.trans a)))]
    · rw [decide_eq_false a, if_neg (by decide)]
      by_cases b : z (35 + 9 * p + 3) = 3
      · rw [decide_eq_true b, if_pos rfl, k5 (Or.inr ((nI_eq (b := 3) (by omega) (by decide)).mp (k3.symm.trans b)))]
      · rw [decide_eq_false b, if_neg (by decide), k6 (fun x => by
          rcases x with x | x
          · exact a (by rw [k3, x]; rfl)
          · exact b (by rw [k3, x]; rfl))]
  · show _ = (if vX7_isPot (mz z) q = true then _ else -1)
    unfold vX5_factOfPot
    rw [if_neg hc, if_neg (show ¬ vX7_isPot (mz z) q = true by rw [← hp]; exact hc)]
theorem ct5 (P : Nat → Bool) : fb_ct P 105 = fb_ct (fun a => P a) 21 + (fb_ct (fun a => P (21 + a)) 21 + (fb_ct (fun a => P (42 + a)) 21 + (fb_ct (fun a => P (63 + a)) 21 + fb_ct (fun a => P (84 + a)) 21))) := by
  rw [show (105 : Nat) = 21 + (21 + (21 + (21 + 21))) from rfl, fb_ct_split, fb_ct_split, fb_ct_split, fb_ct_split]
  have e1 : (fun k => P (21 + (21 + k))) = fun k => P (42 + k) := funext fun k => by rw [show 21 + (21 + k) = 42 + k by omega]
  have e2 : (fun k => P (21 + (21 + (21 + k)))) = fun k => P (63 + k) := funext fun k => by rw [show 21 + (21 + (21 + k)) = 63 + k by omega]
  have e3 : (fun k => P (21 + (21 + (21 + (21 + k))))) = fun k => P (84 + k) := funext fun k => by rw [show 21 + (21 + (21 + (21 + k))) = 84 + k by omega]
  rw [e1, e2, e3]
theorem bks_n {np nt : Nat} {w : WS} {z : Nat → Int32} (h0 : w.2 0 = nI nt) (hnt : nt ≤ 999) (hnp : np ≤ 10) (hb : WRbk np nt w z) (hu : WRun z) {q : Int32} (hq : q ≠ -6) : cBookings w q = cnI (zBkP z q) 105 := by
  unfold cBookings
  rw [cnI_ct, cnI_ct, ct5]
  have e : ∀ a, a < 21 → cBookingsP w q a = (zBkP z q a || (zBkP z q (21 + a) || (zBkP z q (42 + a) || (zBkP z q (63 + a) || zBkP z q (84 + a))))) := fun a ha => by
    unfold cBookingsP
    rw [wheel_n h0 hnt hnp hb hu ha hq]
    show decide (¬ zWh z q a 5 = -6) = (decide (z (215 + a) = q) || (decide (z (215 + (21 + a)) = q) || (decide (z (215 + (42 + a)) = q) || (decide (z (215 + (63 + a)) = q) || decide (z (215 + (84 + a)) = q)))))
    rcases zWh_cs (z := z) (q := q) (j := a) 5 with ⟨h1, h2⟩ | ⟨i, hi, h1, h2⟩
    · have g0 : z (215 + a) ≠ q := by have := h2 0 (by omega); rwa [show 215 + 21 * 0 + a = 215 + a by omega] at this
      have g1 : z (215 + (21 + a)) ≠ q := by have := h2 1 (by omega); rwa [show 215 + 21 * 1 + a = 215 + (21 + a) by omega] at this
      have g2 : z (215 + (42 + a)) ≠ q := by have := h2 2 (by omega); rwa [show 215 + 21 * 2 + a = 215 + (42 + a) by omega] at this
      have g3 : z (215 + (63 + a)) ≠ q := by have := h2 3 (by omega); rwa [show 215 + 21 * 3 + a = 215 + (63 + a) by omega] at this
      have g4 : z (215 + (84 + a)) ≠ q := by have := h2 4 (by omega); rwa [show 215 + 21 * 4 + a = 215 + (84 + a) by omega] at this
      rw [decide_eq_false g0, decide_eq_false g1, decide_eq_false g2, decide_eq_false g3, decide_eq_false g4, decide_eq_false (fun x => x h1)]; rfl
    · rw [decide_eq_true (show ¬ zWh z q a 5 = -6 from fun x => i6_n (p := i) (by omega) (h1.symm.trans x))]
      rcases (show i = 0 ∨ i = 1 ∨ i = 2 ∨ i = 3 ∨ i = 4 by omega) with rfl | rfl | rfl | rfl | rfl
      · rw [show 215 + 21 * 0 + a = 215 + a by omega] at h2; rw [decide_eq_true h2]; rfl
      · rw [show 215 + 21 * 1 + a = 215 + (21 + a) by omega] at h2; rw [decide_eq_true h2]; simp
      · rw [show 215 + 21 * 2 + a = 215 + (42 + a) by omega] at h2; rw [decide_eq_true h2]; simp
      · rw [show 215 + 21 * 3 + a = 215 + (63 + a) by omega] at h2; rw [decide_eq_true h2]; simp
      · rw [show 215 + 21 * 4 + a = 215 + (84 + a) by omega] at h2; rw [decide_eq_true h2]; simp
  have no : ∀ i j a, i < 5 → j < 5 → i ≠ j → a < 21 → zBkP z q (21 * i + a) = true → zBkP z q (21 * j + a) = true → False := fun i j a hi hj hne ha h1 h2 => by
    have h1 : z (215 + (21 * i + a)) = q := of_decide_eq_true h1
    have h2 : z (215 + (21 * j + a)) = q := of_decide_eq_true h2
    rw [← Nat.add_assoc] at h1 h2
    exact hne (hu a i j ha hi hj (h1.trans h2.symm) (by rw [h1]; exact hq))
  rw [fb_ct_cong e]
  have n0 : ∀ j a, 0 < j → j < 5 → a < 21 → zBkP z q a = true → zBkP z q (21 * j + a) = true → False := fun j a h1 h2 h3 h4 h5 => no 0 j a (by omega) h2 (by omega) h3 (by rw [Nat.mul_zero, Nat.zero_add]; exact h4) h5
  rw [fb_ct_or (p := zBkP z q) (fun a ha x => by
      obtain ⟨x1, x2⟩ := x
      simp only [Bool.or_eq_true] at x2
      rcases x2 with x2 | x2 | x2 | x2
      · exact n0 1 a (by omega) (by omega) ha x1 x2
      · exact n0 2 a (by omega) (by omega) ha x1 x2
      · exact n0 3 a (by omega) (by omega) ha x1 x2
      · exact n0 4 a (by omega) (by omega) ha x1 x2),
    fb_ct_or (p := fun a => zBkP z q (21 + a)) (fun a ha x => by
      obtain ⟨x1, x2⟩ := x
      simp only [Bool.or_eq_true] at x2
      rcases x2 with x2 | x2 | x2
      · exact no 1 2 a (by omega) (by omega) (by omega) ha x1 x2
      · exact no 1 3 a (by omega) (by omega) (by omega) ha x1 x2
      · exact no 1 4 a (by omega) (by omega) (by omega) ha x1 x2),
    fb_ct_or (p := fun a => zBkP z q (42 + a)) (fun a ha x => by
      obtain ⟨x1, x2⟩ := x
      simp only [Bool.or_eq_true] at x2
      rcases x2 with x2 | x2
      · exact no 2 3 a (by omega) (by omega) (by omega) ha x1 x2
      · exact no 2 4 a (by omega) (by omega) (by omega) ha x1 x2),
    fb_ct_or (p := fun a => zBkP z q (63 + a)) (fun a ha x => no 3 4 a (by omega) (by omega) (by omega) ha x.1 x.2)]
theorem thr_n {K n np nt : Nat} {w : WS} {z : Nat → Int32} (h : WRpt K n np nt w z) (hn : n ≤ 20) (h2 : w.2 2 = nI n) (q : Int32) : cThrownBy w q = mk (fun j => decide (z (35 + 9 * j) = q)) n := by
  unfold cThrownBy cIdx
  rw [wN_n h2 hn, Nat.min_eq_left hn]
  refine mk_cong (fun j hj => ?_)
  rw [(h j hj).1.1]
theorem Q_ofPupil {K : Nat} {w : WS} {z : Nat → Int32} (h : WR K w z) (q what : Int32) : vX5_factOfPupil w q what = vX7_ofPupil (mz z) q what := by
  obtain ⟨n, np, nt, hs, h1, h2, h3, h4, h5, h6, h7, h8, h9⟩ := h
  obtain ⟨⟨b1, b2, b3⟩, ⟨n1, n2⟩, ⟨p1, p2⟩, ⟨t1, t2⟩, x1, f1⟩ := id hs
  have hp : vX5_hasPupil w q = vX7_isPupil (mz z) q := hasP_eq p1 p2 (by omega)
  show _ = (if vX7_isPupil (mz z) q = true then (if what = 0 then (zWh z q 0 5) else (if what = 1 then (zPotsOf (mz z) q (-6)) else (if what = 2 then (zPotsOf (mz z) q 3) else (if what = 3 then (zPotsOf (mz z) q 4) else (if what = 4 then (z (15 + (cl q))) else (if what = 5 then (cnI (zBkP z q) 105) else (-2))))))) else (-1))
  unfold vX5_factOfPupil
  rw [← hp]
  by_cases a : vX5_hasPupil w q = true
  · obtain ⟨pu, hpu, rfl⟩ := (hasP_of p1 (by omega)).mp a
    rw [if_pos a, if_pos a]
    have w0 : cWheel w (nI pu) 0 = zWh z (nI pu) 0 5 := wheel_n t1 b3 b2 h5 h6 (ah := 0) (by omega) (i6_n (by omega))
    have o1 : cThrownBy w (nI pu) = zPotsOf (mz z) (nI pu) (-6) := by
      rw [thr_n h7 b1 n1]
      unfold zPotsOf
      rw [mzN n2 b1]
      refine mk_cong (fun j hj => ?_)
      show _ = (decide (z (35 + 9 * j) = nI pu) && (decide ((-6 : Int32) < 0) || _))
      rw [show decide ((-6 : Int32) < 0) = true by decide, Bool.true_or, Bool.and_true]
    have o2 : ∀ kd : Int32, decide (kd < 0) = false → cThrownBy w (nI pu) &&& cOfKind w kd = zPotsOf (mz z) (nI pu) kd := fun kd hkd => by
      rw [thr_n h7 b1 n1, ofK_n h7 b1 n1, mk_and (by omega)]
      unfold zPotsOf
      rw [mzN n2 b1]
      refine mk_cong (fun j hj => ?_)
      show _ = (decide (z (35 + 9 * j) = nI pu) && (decide (kd < 0) || decide (z (35 + 9 * j + 3) = kd)))
      rw [hkd, Bool.false_or]
    rw [w0, o2 3 (by decide), o2 4 (by decide), bks_n t1 b3 b2 h5 h6 (i6_n (by omega)), cl_n (by omega), show rAt 10 (w.1 11) (nI pu) = z (15 + pu) from (rAt_n (by omega) (by decide)).trans (h3.1 pu (by omega)), o1]
  · rw [if_neg a, if_neg a]
theorem Q_booked {K : Nat} {w : WS} {z : Nat → Int32} (h : WR K w z) (wh ah : Int32) : vX5_bookerOf w wh ah = vX7_booked (mz z) wh ah := by
  obtain ⟨n, np, nt, hs, h1, h2, h3, h4, h5, h6, h7, h8, h9⟩ := h
  obtain ⟨⟨b1, b2, b3⟩, ⟨n1, n2⟩, ⟨p1, p2⟩, ⟨t1, t2⟩, x1, f1⟩ := id hs
  show _ = (if isW wh 0 4 = true then (if isW ah 0 20 = true then z (215 + 21 * cl wh + cl ah) else -2) else -1)
  unfold vX5_bookerOf
  by_cases a : isW wh 0 4 = true
  · by_cases b : isW ah 0 20 = true
    · rw [if_pos a, if_pos b, if_pos a, if_pos b]
      obtain ⟨i, -, hi, rfl⟩ := isW_of (lo := 0) (hi := 4) (by decide) (by decide) a
      obtain ⟨j, -, hj, rfl⟩ := isW_of (lo := 0) (hi := 20) (by decide) (by decide) b
      rw [cl_n (by omega), cl_n (by omega)]
      exact booker_n t1 b3 b2 h5 (by omega) (by omega)
    · rw [if_pos a, if_neg b, if_pos a, if_neg b]
  · rw [if_neg a, if_neg a]
theorem Q_why {K : Nat} {w : WS} {z : Nat → Int32} (h : WR K w z) (q : Int32) : vX5_reasonAgainstLoading w q = vX7_why (mz z) q := by
  obtain ⟨n, np, nt, hs, h1, h2, h3, h4, h5, h6, h7, h8, h9⟩ := h
  obtain ⟨⟨b1, b2, b3⟩, ⟨n1, n2⟩, ⟨p1, p2⟩, ⟨t1, t2⟩, x1, f1⟩ := id hs
  have hp : cHas w q = vX7_isPot (mz z) q := cHas_eq n1 n2 (by omega)
  show _ = (if vX7_isPot (mz z) q = true then vX7_whyNot (mz z) q (cl q) else -1)
  rw [← hp]
  by_cases hc : cHas w q = true
  · obtain ⟨p, hpn, rfl⟩ := (cHas_of n1 (by omega)).mp hc
    rw [if_pos hc, cl_n (by omega)]
    exact why_n h7 b1 h1 n1 n2 hpn
  · rw [if_neg hc]
    unfold vX5_reasonAgainstLoading
    rw [if_neg hc]
theorem Q_dryIn {K : Nat} {w : WS} {z : Nat → Int32} (h : WR K w z) (q : Int32) : vX5_nightsUntilDry w q = vX7_dryIn (mz z) q := by
  obtain ⟨n, np, nt, hs, h1, h2, h3, h4, h5, h6, h7, h8, h9⟩ := h
  obtain ⟨⟨b1, b2, b3⟩, ⟨n1, n2⟩, ⟨p1, p2⟩, ⟨t1, t2⟩, x1, f1⟩ := id hs
  have hp : cHas w q = vX7_isPot (mz z) q := cHas_eq n1 n2 (by omega)
  show _ = (if vX7_isPot (mz z) q = true then (if z (35 + 9 * cl q + 3) = 0 then (if z (35 + 9 * cl q + 4) = 0 then (if 0 < vX7_toDry (mz z) q (cl q) then (if 8 ≤ z (35 + 9 * cl q + 5) then vX7_toDry (mz z) q (cl q) else (vX7_toDry (mz z) q (cl q) + 1) / 2) else 0) else -5) else 0) else -1)
  unfold vX5_nightsUntilDry
  rw [← hp]
  by_cases hc : cHas w q = true
  · obtain ⟨p, hpn, rfl⟩ := (cHas_of n1 (by omega)).mp hc
    rw [if_pos hc, if_pos hc, cl_n (by omega), pt_isk h7 b1 hpn, pt_kiln h7 b1 hpn, lack_n h7 b1 h1 hpn]
    by_cases a : z (35 + 9 * p + 3) = 0
    · rw [decide_eq_true a, if_pos rfl, if_pos a]
      obtain ⟨-, -, -, -, -, kd, k1, ⟨k2, k3⟩, k4, -⟩ := id (h7 p hpn)
      have hkd : kd = 0 := (nI_eq (b := 0) (by omega) (by decide)).mp (k3.symm.trans a)
      subst hkd
      by_cases b : z (35 + 9 * p + 4) = 0
      · rw [if_pos b, decide_eq_false (by rw [b]; decide), if_neg (by decide), (pt_beside h7 b1 hpn b).1]
        by_cases c : 0 < vX7_toDry (mz z) (nI p) p
        · rw [if_pos c, if_neg (fa_of_lt c).2.2.1]
          by_cases d : 8 ≤ z (35 + 9 * p + 5)
          · rw [if_pos d, decide_eq_false (fun x => x d), if_neg (by decide)]
          · rw [if_neg d, decide_eq_true d, if_pos rfl]
        · rw [if_neg c]
          have e0 : (if vX7_toDry (mz z) (nI p) p < 0 then 0 else vX7_toDry (mz z) (nI p) p) = 0 := by
            by_cases d : vX7_toDry (mz z) (nI p) p < 0
            · rw [if_pos d]
            · rw [if_neg d]
              rcases fa_three (vX7_toDry (mz z) (nI p) p) 0 with e | e | e
              · exact absurd e d
              · exact e
              · exact absurd e c
          rw [e0]
          split <;> decide
      · rw [if_neg b]
        rcases k4 with ⟨x, -⟩ | ⟨x, -⟩ | ⟨-, -, x⟩
        · exact absurd x b
        · rw [decide_eq_true x, if_pos rfl]
        · rcases x with x | x <;> omega
    · rw [decide_eq_false a, if_neg (by decide), if_neg a]
  · rw [if_neg hc, if_neg hc]
theorem ftp_k {K n np nt : Nat} {w : WS} {z : Nat → Int32} (h : WRpt K n np nt w z) (heat : Int32) {p : Nat} (hp : p < n) : (zFTP (mz z) heat 0 p || zFTP (mz z) heat 2 p) = ((((zPA z 1 p && !zFTP (mz z) heat 4 p) && !zFTP (mz z) heat 1 p)) && !zFTP (mz z) heat 3 p) := by
  show ((decide (z (35 + 9 * p + 4) = 1) && decide (vX7_fired (mz z) (nI p) heat p = 0)) || (decide (z (35 + 9 * p + 4) = 1) && decide (vX7_fired (mz z) (nI p) heat p = 2))) = ((((decide (z (35 + 9 * p + 4) = 1) && !(decide (z (35 + 9 * p + 4) = 1) && decide (vX7_fired (mz z) (nI p) heat p = 4))) && !(decide (z (35 + 9 * p + 4) = 1) && decide (vX7_fired (mz z) (nI p) heat p = 1)))) && !(decide (z (35 + 9 * p + 4) = 1) && decide (vX7_fired (mz z) (nI p) heat p = 3)))
  by_cases e : z (35 + 9 * p + 4) = 1
  · rw [decide_eq_true e]
    have hf : vX7_fired (mz z) (nI p) heat p = 0 ∨ vX7_fired (mz z) (nI p) heat p = 1 ∨ vX7_fired (mz z) (nI p) heat p = 2 ∨ vX7_fired (mz z) (nI p) heat p = 3 ∨ vX7_fired (mz z) (nI p) heat p = 4 := by
      rcases pt_k2 h hp e with k | ⟨k, -⟩
      · rcases (fired_cs z heat p).1 k with x | x | x
        · exact Or.inl x
        · exact Or.inr (Or.inl x)
        · exact Or.inr (Or.inr (Or.inr (Or.inr x)))
      · rcases (fired_cs z heat p).2 k with x | x | x | x
        · exact Or.inr (Or.inl x)
        · exact Or.inr (Or.inr (Or.inl x))
        · exact Or.inr (Or.inr (Or.inr (Or.inl x)))
        · exact Or.inr (Or.inr (Or.inr (Or.inr x)))
    rcases hf with x | x | x | x | x <;> rw [x] <;> decide
  · rw [decide_eq_false e]; rfl
theorem Q_ifFired {K : Nat} {w : WS} {z : Nat → Int32} (h : WR K w z) (heat what : Int32) : vX5_outcomeOfFiring w heat what = vX7_ifFired (mz z) heat what := by
  obtain ⟨n, np, nt, hs, h1, h2, h3, h4, h5, h6, h7, h8, h9⟩ := h
  obtain ⟨⟨b1, b2, b3⟩, ⟨n1, n2⟩, ⟨p1, p2⟩, ⟨t1, t2⟩, x1, f1⟩ := id hs
  have hm : mN (mz z) = n := mzN n2 b1
  show _ = (if (isW heat 80 140) = true then (if (isW what 0 3) = true then (if what = 0 then mk (zFTP (mz z) heat 4) (mN (mz z)) else (if what = 1 then mk (zFTP (mz z) heat 1) (mN (mz z)) else (if what = 2 then mk (zFTP (mz z) heat 3) (mN (mz z)) else (((mk (zPA z 1) (mN (mz z)) &&& (mk (zFTP (mz z) heat 4) (mN (mz z)) ^^^ (-1))) &&& (mk (zFTP (mz z) heat 1) (mN (mz z)) ^^^ (-1))) &&& (mk (zFTP (mz z) heat 3) (mN (mz z)) ^^^ (-1)))))) else (-2)) else (-2))
  unfold vX5_outcomeOfFiring
  rw [hm, firedTo_n h7 b1 h1 n1, firedTo_n h7 b1 h1 n1, firedTo_n h7 b1 h1 n1, firedTo_n h7 b1 h1 n1, firedTo_n h7 b1 h1 n1, mk_or (by omega), mk_sub (by omega), mk_sub (by omega), mk_sub (by omega), mk_cong (P := fun i => zFTP (mz z) heat 0 i || zFTP (mz z) heat 2 i) (fun p hp => ftp_k h7 heat hp)]
  by_cases a : isW heat 80 140 = true
  · rw [if_pos a, if_pos a]
    by_cases e0 : what = 0
    · subst e0
      rw [if_pos rfl, if_pos (by decide), if_pos rfl]
    · by_cases e1 : what = 1
      · subst e1
        rw [if_neg e0, if_pos rfl, if_pos (by decide), if_neg e0, if_pos rfl]
      · by_cases e2 : what = 2
        · subst e2
          rw [if_neg e0, if_neg e1, if_pos rfl, if_pos (by decide), if_neg e0, if_neg e1, if_pos rfl]
        · by_cases e3 : what = 3
          · subst e3
            rw [if_neg e0, if_neg e1, if_neg e2, if_pos rfl, if_pos (by decide), if_neg e0, if_neg e1, if_neg e2]
          · have hw : ¬ isW what 0 3 = true := fun x => by
              obtain ⟨m, -, hm2, rfl⟩ := isW_of (lo := 0) (hi := 3) (by decide) (by decide) x
              rcases (show m = 0 ∨ m = 1 ∨ m = 2 ∨ m = 3 by omega) with rfl | rfl | rfl | rfl
              · exact e0 rfl
              · exact e1 rfl
              · exact e2 rfl
              · exact e3 rfl
            rw [if_neg e0, if_neg e1, if_neg e2, if_neg e3, if_neg hw]
  · rw [if_neg a, if_neg a]
