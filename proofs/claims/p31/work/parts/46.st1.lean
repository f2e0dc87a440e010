/-! a change of the workshop, in the class and in the reference -/
def Swk (K : Nat) (w : WS) (v : Int32) (w2 : WS) (no dv : Int32) (z2 : Nat → Int32) : Prop := (no < 0 ∧ v = no ∧ w2 = w) ∨ (no = 0 ∧ v = dv ∧ 0 ≤ v ∧ WR (K + 20) w2 z2)
theorem Swk_no {K : Nat} {w : WS} {e dv : Int32} {z2 : Nat → Int32} (h : e < 0) : Swk K w e w e dv z2 := Or.inl ⟨h, rfl, rfl⟩
theorem Swk_ite {K : Nat} {w w1 w2 : WS} {v1 v2 n1 n2 dv : Int32} {z2 : Nat → Int32} {c d : Prop} [Decidable c] [Decidable d] (hcd : c ↔ d) (ht : c → Swk K w v1 w1 n1 dv z2) (hf : ¬ c → Swk K w v2 w2 n2 dv z2) : Swk K w (if c then v1 else v2) (if c then w1 else w2) (if d then n1 else n2) dv z2 := by
  by_cases h : c
  · rw [if_pos h, if_pos h, if_pos (hcd.mp h)]; exact ht h
  · rw [if_neg h, if_neg h, if_neg (fun z => h (hcd.mpr z))]; exact hf h
theorem Swk_itn {K : Nat} {w w1 w2 : WS} {v1 v2 n1 n2 dv : Int32} {z2 : Nat → Int32} {c d : Prop} [Decidable c] [Decidable d] (hcd : c ↔ ¬ d) (ht : c → Swk K w v1 w1 n1 dv z2) (hf : ¬ c → Swk K w v2 w2 n2 dv z2) : Swk K w (if c then v1 else v2) (if c then w1 else w2) (if d then n2 else n1) dv z2 := by
  by_cases h : c
  · rw [if_pos h, if_pos h, if_neg (hcd.mp h)]; exact ht h
  · rw [if_neg h, if_neg h, if_pos (Classical.byContradiction (fun z => h (hcd.mpr z)))]; exact hf h
theorem z00 : (0 : Int32) ≤ 0 := by decide
theorem WRs_c {n np nt : Nat} {w w2 : WS} {z z2 : Nat → Int32} (h : WRs n np nt w z) (hw : ∀ i, i < 6 → i ≠ 1 → w2.2 i = w.2 i) (hz : ∀ i, i < 2 ∨ (6 ≤ i ∧ i < 9) → z2 i = z i) : WRs n np nt w2 z2 := by
  unfold WRs at h ⊢
  rw [hw 2 (by omega) (by omega), hw 3 (by omega) (by omega), hw 0 (by omega) (by omega), hw 4 (by omega) (by omega), hw 5 (by omega) (by omega), hz 7 (by omega), hz 6 (by omega), hz 0 (by omega), hz 1 (by omega), hz 8 (by omega)]
  exact h
theorem zWh_cs {z : Nat → Int32} {q : Int32} {j : Nat} : ∀ m, (zWh z q j m = -6 ∧ ∀ i, i < m → z (215 + 21 * i + j) ≠ q) ∨ ∃ i, i < m ∧ zWh z q j m = nI i ∧ z (215 + 21 * i + j) = q
  | 0 => Or.inl ⟨rfl, fun i hi => absurd hi (Nat.not_lt_zero _)⟩
  | m + 1 => by
    by_cases e : z (215 + 21 * m + j) = q
    · exact Or.inr ⟨m, by omega, if_pos e, e⟩
    · rcases zWh_cs (z := z) (q := q) (j := j) m with ⟨h1, h2⟩ | ⟨i, h1, h2, h3⟩
      · refine Or.inl ⟨(if_neg e).trans h1, fun i hi => ?_⟩
        by_cases hm : i = m
        · subst hm; exact e
        · exact h2 i (by omega)
      · exact Or.inr ⟨i, by omega, (if_neg e).trans h2, h3⟩
theorem zWh_6 {z : Nat → Int32} {q : Int32} {j m : Nat} (hm : m < 2 ^ 31) : zWh z q j m = -6 ↔ zWh z q j m < 0 := by
  rcases zWh_cs (z := z) (q := q) (j := j) m with ⟨h1, -⟩ | ⟨i, h1, h2, -⟩
  · rw [h1]; exact ⟨fun _ => by decide, fun _ => rfl⟩
  · rw [h2]
    exact ⟨fun e => absurd e (i6_n (by omega)), fun e => absurd e (nI_pos (by omega))⟩
theorem bk_cs {np nt : Nat} {w : WS} {z : Nat → Int32} (h : WRbk np nt w z) {wh ah : Nat} (h1 : wh < 5) (h2 : ah < 21) : z (215 + 21 * wh + ah) = -6 ∨ ∃ q : Nat, q < np ∧ z (215 + 21 * wh + ah) = nI q := by
  rcases h wh ah h1 h2 with ⟨a, -⟩ | ⟨q, a, b, -⟩
  · exact Or.inl a
  · exact Or.inr ⟨q, a, b⟩
/-! set -/
def zNoSet (st v : Int32) : Int32 := if isW st 0 3 = true then (if isW v (vX7_least st) (vX7_most st) = true then 0 else -2) else -2
theorem rng_of {st v : Int32} (h : vX5_isInRange st v = true) : ∃ m : Nat, m < 4 ∧ st = nI m ∧ ∃ u : Nat, u ≤ 140 ∧ v = nI u := by
  unfold vX5_isInRange at h
  by_cases e0 : st = 0
  · rw [if_pos e0] at h
    obtain ⟨u, -, h2, h3⟩ := isW_of (lo := 1) (hi := 9) (by decide) (by decide) h
    exact ⟨0, by omega, e0, u, by omega, h3⟩
  · rw [if_neg e0] at h
    by_cases e1 : st = 1
    · rw [if_pos e1] at h
      obtain ⟨u, -, h2, h3⟩ := isW_of (lo := 3) (hi := 24) (by decide) (by decide) h
      exact ⟨1, by omega, e1, u, by omega, h3⟩
    · rw [if_neg e1] at h
      by_cases e2 : st = 2
      · rw [if_pos e2] at h
        obtain ⟨u, -, h2, h3⟩ := isW_of (lo := 100) (hi := 140) (by decide) (by decide) h
        exact ⟨2, by omega, e2, u, by omega, h3⟩
      · rw [if_neg e2] at h
        by_cases e3 : st = 3
        · rw [if_pos e3] at h
          obtain ⟨u, -, h2, h3⟩ := isW_of (lo := 0) (hi := 20) (by decide) (by decide) h
          exact ⟨3, by omega, e3, u, by omega, h3⟩
        · rw [if_neg e3] at h; cases h
theorem rng_eq (st v : Int32) : vX5_isInRange st v = (isW st 0 3 && isW v (vX7_least st) (vX7_most st)) := by
  unfold vX5_isInRange
  by_cases e0 : st = 0
  · subst e0
    rw [if_pos rfl, show isW 0 0 3 = true by decide, show vX7_least 0 = 1 by decide, show vX7_most 0 = 9 by decide, Bool.true_and]
  · rw [if_neg e0]
    by_cases e1 : st = 1
    · subst e1
      rw [if_pos rfl, show isW 1 0 3 = true by decide, show vX7_least 1 = 3 by decide, show vX7_most 1 = 24 by decide, Bool.true_and]
    · rw [if_neg e1]
      by_cases e2 : st = 2
      · subst e2
        rw [if_pos rfl, show isW 2 0 3 = true by decide, show vX7_least 2 = 100 by decide, show vX7_most 2 = 140 by decide, Bool.true_and]
      · rw [if_neg e2]
        by_cases e3 : st = 3
        · subst e3
          rw [if_pos rfl, show isW 3 0 3 = true by decide, show vX7_least 3 = 0 by decide, show vX7_most 3 = 20 by decide, Bool.true_and]
        · rw [if_neg e3]
          cases h : isW st 0 3 with
          | false => rfl
          | true =>
            obtain ⟨m, -, h2, h3⟩ := isW_of (lo := 0) (hi := 3) (by decide) (by decide) h
            rcases (show m = 0 ∨ m = 1 ∨ m = 2 ∨ m = 3 by omega) with rfl | rfl | rfl | rfl
            · exact absurd h3 e0
            · exact absurd h3 e1
            · exact absurd h3 e2
            · exact absurd h3 e3
theorem S_set {K : Nat} {w : WS} {z : Nat → Int32} (h : WR K w z) (st v : Int32) : Swk K w (vX5_changeSetting w st v) (wX5_changeSetting w st v) (zNoSet st v) (z (2 + cl st)) (upd z (2 + cl st) v) := by
  obtain ⟨n, np, nt, hs, h1, h2, h3, h4, h5, h6, h7, h8, h9⟩ := h
  have e : zNoSet st v = if vX5_isInRange st v = true then 0 else -2 := by
    unfold zNoSet
    rw [rng_eq]
    cases isW st 0 3 <;> cases isW v (vX7_least st) (vX7_most st) <;> rfl
  rw [e]
  unfold vX5_changeSetting wX5_changeSetting
  refine Swk_ite Iff.rfl (fun a => ?_) (fun _ => Swk_no (by decide))
  obtain ⟨m, hm, rfl, u, hu, rfl⟩ := rng_of a
  rw [cl_n (by omega), rAt_n hm (by omega), rPut_n hm (by omega)]
  obtain ⟨g1, u0, g2, g3⟩ := h1 m hm
  refine Or.inr ⟨rfl, g1, ?_, n, np, nt, WRs_c hs (fun _ _ _ => rfl) (fun i hi => (by simp only [upd, if_true, if_false]; repeat (first | rw [if_pos (by omega)] | rw [if_neg (by omega)]))), fun i hi => ?_, WRgl_c h2 (fun _ _ => rfl) (fun i hi => (by simp only [upd, if_true, if_false]; repeat (first | rw [if_pos (by omega)] | rw [if_neg (by omega)]))), WRfee_c h3 (fun _ _ => rfl) (fun i hi => (by simp only [upd, if_true, if_false]; repeat (first | rw [if_pos (by omega)] | rw [if_neg (by omega)]))) (by simp only [upd, if_true, if_false]; repeat (first | rw [if_pos (by omega)] | rw [if_neg (by omega)])), WRthr_c h4 rfl (fun i hi => (by simp only [upd, if_true, if_false]; repeat (first | rw [if_pos (by omega)] | rw [if_neg (by omega)]))), WRbk_c h5 (fun _ _ => rfl) (fun i hi => (by simp only [upd, if_true, if_false]; repeat (first | rw [if_pos (by omega)] | rw [if_neg (by omega)]))), WRun_c h6 (fun i hi => (by simp only [upd, if_true, if_false]; repeat (first | rw [if_pos (by omega)] | rw [if_neg (by omega)]))), WRpt_c h7 hs.1.1 (Nat.le_add_right _ _) (Nat.le_refl _) (Nat.le_refl _) (fun r r1 r2 p hp => congrFun (va_up_of _ (by omega) _) p) (fun i i1 i2 => (by simp only [upd, if_true, if_false]; repeat (first | rw [if_pos (by omega)] | rw [if_neg (by omega)]))), WRdi_c h8 hs.1.1 (fun i i1 i2 => (by simp only [upd, if_true, if_false]; repeat (first | rw [if_pos (by omega)] | rw [if_neg (by omega)]))), WRbr_c h9 hs.1.1 (fun i i1 i2 => (by simp only [upd, if_true, if_false]; repeat (first | rw [if_pos (by omega)] | rw [if_neg (by omega)]))) (by simp only [upd, if_true, if_false]; repeat (first | rw [if_pos (by omega)] | rw [if_neg (by omega)]))⟩
  · rw [g1, g3]; exact nI_pos' (by omega)
  · show upd (w.1 0) m (nI u) i = upd z (2 + m) (nI u) (2 + i) ∧ _
    by_cases ei : i = m
    · subst ei
      rw [upd_s, upd_s]
      exact ⟨rfl, u, hu, rfl⟩
    · rw [upd_o _ _ ei, upd_o _ _ (by omega)]
      exact h1 i hi
/-! pupil -/
theorem S_pupil {K : Nat} {w : WS} {z : Nat → Int32} (h : WR K w z) : Swk K w (vX5_admitPupil w) (wX5_admitPupil w) (vX7_noPupil (mz z)) (vX7_doPupil (mz z)) ((wX7_doPupil (mz z)).1 0) := by
  obtain ⟨n, np, nt, hs, h1, h2, h3, h4, h5, h6, h7, h8, h9⟩ := h
  obtain ⟨⟨b1, b2, b3⟩, n1, ⟨p1, p2⟩, t1, x1, f1⟩ := id hs
  show Swk K w (if w.2 3 < 10 then w.2 3 else -4) (if w.2 3 < 10 then wSc w 3 (w.2 3 + 1) else w) (if z 6 = 10 then -4 else 0) (upd z 6 (z 6 + 1) 6 - 1) (upd z 6 (z 6 + 1))
  rw [p1, p2]
  refine Swk_itn ?_ (fun a => ?_) (fun _ => Swk_no (by decide))
  · rw [show (10 : Int32) = nI 10 from rfl, nI_ltI (by omega) (by decide), nI_eq (by omega) (by decide)]; omega
  · have hlt : np < 10 := (nI_ltI (b := 10) (by omega) (by decide)).mp a
    refine Or.inr ⟨rfl, ?_, nI_pos' (by omega), n, np + 1, nt, ?_, WRset_c h1 (fun _ _ => rfl) (fun i hi => (by simp only [upd, if_true, if_false]; repeat (first | rw [if_pos (by omega)] | rw [if_neg (by omega)]))), WRgl_c h2 (fun _ _ => rfl) (fun i hi => (by simp only [upd, if_true, if_false]; repeat (first | rw [if_pos (by omega)] | rw [if_neg (by omega)]))), WRfee_c h3 (fun _ _ => rfl) (fun i hi => (by simp only [upd, if_true, if_false]; repeat (first | rw [if_pos (by omega)] | rw [if_neg (by omega)]))) (by simp only [upd, if_true, if_false]; repeat (first | rw [if_pos (by omega)] | rw [if_neg (by omega)])), WRthr_c h4 rfl (fun i hi => (by simp only [upd, if_true, if_false]; repeat (first | rw [if_pos (by omega)] | rw [if_neg (by omega)]))), ?_, WRun_c h6 (fun i hi => (by simp only [upd, if_true, if_false]; repeat (first | rw [if_pos (by omega)] | rw [if_neg (by omega)]))), WRpt_c h7 hs.1.1 (Nat.le_add_right _ _) (Nat.le_add_right _ _) (Nat.le_refl _) (fun r r1 r2 p hp => rfl) (fun i i1 i2 => (by simp only [upd, if_true, if_false]; repeat (first | rw [if_pos (by omega)] | rw [if_neg (by omega)]))), WRdi_c h8 hs.1.1 (fun i i1 i2 => (by simp only [upd, if_true, if_false]; repeat (first | rw [if_pos (by omega)] | rw [if_neg (by omega)]))), WRbr_c h9 hs.1.1 (fun i i1 i2 => (by simp only [upd, if_true, if_false]; repeat (first | rw [if_pos (by omega)] | rw [if_neg (by omega)]))) (by simp only [upd, if_true, if_false]; repeat (first | rw [if_pos (by omega)] | rw [if_neg (by omega)]))⟩
    · rw [upd_s, nI_1, show (1 : Int32) = nI 1 from rfl, pk_sub (by omega), Nat.add_sub_cancel]
    · refine ⟨⟨b1, by omega, b3⟩, ⟨n1.1, ?_⟩, ⟨nI_1 np, ?_⟩, ⟨t1.1, ?_⟩, ?_, ?_⟩
      · rw [upd_o _ _ (by omega)]; exact n1.2
      · rw [upd_s]; exact nI_1 np
      · rw [upd_o _ _ (by omega)]; exact t1.2
      · rw [upd_o _ _ (by omega)]; exact x1
      · rw [upd_o _ _ (by omega)]; exact f1
    · have h5b := WRbk_c (w2 := wSc w 3 (nI np + 1)) (z2 := upd z 6 (nI np + 1)) h5 (fun _ _ => rfl) (fun i hi => (by simp only [upd, if_true, if_false]; repeat (first | rw [if_pos (by omega)] | rw [if_neg (by omega)])))
      intro wh ah h1 h2
      rcases h5b wh ah h1 h2 with ⟨a1, a2⟩ | ⟨q, a1, a2, a3⟩
      · exact Or.inl ⟨a1, a2⟩
      · exact Or.inr ⟨q, by omega, a2, a3⟩
/-! book -/
theorem WRbk_u {np nt : Nat} {w : WS} {z : Nat → Int32} (h : WRbk np nt w z) {i j : Nat} (hi : i < 5) (hj : j < 21) {b c : Int32} (hc : BK np c b) : WRbk np nt (wRow w 1 (upd (w.1 1) (5 * ((nt + j) % 21) + i) c)) (upd z (215 + 21 * i + j) b) := fun wh ah h1 h2 => by
  show BK np (upd (w.1 1) (5 * ((nt + j) % 21) + i) c (5 * ((nt + ah) % 21) + wh)) _
  by_cases e : wh = i ∧ ah = j
  · obtain ⟨rfl, rfl⟩ := e
    rw [upd_s, upd_s]; exact hc
  · rw [upd_o _ _ (by omega), upd_o _ _ (by omega)]
    exact h wh ah h1 h2
theorem S_book {K : Nat} {w : WS} {z : Nat → Int32} (h : WR K w z) (q wh ah : Int32) : Swk K w (vX5_bookWheel w q wh ah) (wX5_bookWheel w q wh ah) (vX7_noBook (mz z) q wh ah) (vX7_doBook (mz z) q wh ah (cl wh) (cl ah)) ((wX7_doBook (mz z) q wh ah (cl wh) (cl ah)).1 0) := by
  obtain ⟨n, np, nt, hs, h1, h2, h3, h4, h5, h6, h7, h8, h9⟩ := h
  obtain ⟨⟨b1, b2, b3⟩, n1, ⟨p1, p2⟩, ⟨t1, t2⟩, x1, f1⟩ := id hs
  have hp : vX5_hasPupil w q = vX7_isPupil (mz z) q := hasP_eq p1 p2 (by omega)
  show Swk K w _ _ (if vX7_isPupil (mz z) q = true then (if isW wh 0 4 = true then (if isW ah 0 20 = true then (if 0 ≤ z (215 + 21 * cl wh + cl ah) then -5 else if zWh z q (cl ah) 5 < 0 then 0 else -5) else -2) else -1) else -1) (upd z (215 + (21 * cl wh) + cl ah) q 0 + ah) (upd z (215 + (21 * cl wh) + cl ah) q)
  unfold vX5_bookWheel wX5_bookWheel
  refine Swk_ite (by rw [hp]) (fun a => Swk_ite Iff.rfl (fun b => Swk_ite Iff.rfl (fun c => ?_) (fun _ => Swk_no (by decide))) (fun _ => Swk_no (by decide))) (fun _ => Swk_no (by decide))
  obtain ⟨pu, hpu, rfl⟩ := (hasP_of p1 (by omega)).mp a
  obtain ⟨i, -, hi, rfl⟩ := isW_of (lo := 0) (hi := 4) (by decide) (by decide) b
  obtain ⟨j, -, hj, rfl⟩ := isW_of (lo := 0) (hi := 20) (by decide) (by decide) c
  rw [cl_n (p := i) (by omega), cl_n (p := j) (by omega), booker_n t1 b3 b2 h5 (wh := i) (ah := j) (by omega) (by omega), wheel_n t1 b3 b2 h5 h6 (ah := j) (by omega) (i6_n (by omega))]
  refine Swk_itn ?_ (fun d => Swk_ite (zWh_6 (by decide)) (fun e => ?_) (fun _ => Swk_no (by decide))) (fun _ => Swk_no (by decide))
  · rcases bk_cs h5 (wh := i) (ah := j) (by omega) (by omega) with e | ⟨q2, e1, e⟩
    · rw [e]; decide
    · rw [e]; exact ⟨fun z => absurd z (i6_n (by omega)), fun z => absurd (nI_pos' (by omega)) z⟩
  · have hno : ∀ i2, i2 < 5 → z (215 + 21 * i2 + j) ≠ nI pu := by
      rcases zWh_cs (z := z) (q := nI pu) (j := j) 5 with ⟨-, h⟩ | ⟨i2, h, h2, -⟩
      · exact h
      · rw [h2] at e; exact absurd e (i6_n (by omega))
    have hce : cEnter w (nI i) (nI j) (nI pu) = wRow w 1 (upd (w.1 1) (5 * ((nt + j) % 21) + i) (nI (pu + 1))) := by
      unfold cEnter
      rw [cell_n t1 b3 (by omega), rPut_n (by omega) (by omega), nI_1]
    rw [hce]
    refine Or.inr ⟨rfl, ?_, ?_, n, np, nt, WRs_c hs (fun _ _ _ => rfl) (fun i hi => (by simp only [upd, if_true, if_false]; repeat (first | rw [if_pos (by omega)] | rw [if_neg (by omega)]))), WRset_c h1 (fun _ _ => rfl) (fun i hi => (by simp only [upd, if_true, if_false]; repeat (first | rw [if_pos (by omega)] | rw [if_neg (by omega)]))), WRgl_c h2 (fun _ _ => rfl) (fun i hi => (by simp only [upd, if_true, if_false]; repeat (first | rw [if_pos (by omega)] | rw [if_neg (by omega)]))), WRfee_c h3 (fun _ _ => rfl) (fun i hi => (by simp only [upd, if_true, if_false]; repeat (first | rw [if_pos (by omega)] | rw [if_neg (by omega)]))) (by simp only [upd, if_true, if_false]; repeat (first | rw [if_pos (by omega)] | rw [if_neg (by omega)])), WRthr_c h4 rfl (fun i hi => (by simp only [upd, if_true, if_false]; repeat (first | rw [if_pos (by omega)] | rw [if_neg (by omega)]))), WRbk_u h5 (by omega) (by omega) (Or.inr ⟨pu, hpu, rfl, rfl⟩), ?_, WRpt_c h7 b1 (Nat.le_add_right _ _) (Nat.le_refl _) (Nat.le_refl _) (fun r r1 r2 p hp => congrFun (va_up_of _ (by omega) _) p) (fun i i1 i2 => (by simp only [upd, if_true, if_false]; repeat (first | rw [if_pos (by omega)] | rw [if_neg (by omega)]))), WRdi_c h8 b1 (fun i i1 i2 => (by simp only [upd, if_true, if_false]; repeat (first | rw [if_pos (by omega)] | rw [if_neg (by omega)]))), WRbr_c h9 b1 (fun i i1 i2 => (by simp only [upd, if_true, if_false]; repeat (first | rw [if_pos (by omega)] | rw [if_neg (by omega)]))) (by simp only [upd, if_true, if_false]; repeat (first | rw [if_pos (by omega)] | rw [if_neg (by omega)]))⟩
    · show w.2 0 + nI j = upd z (215 + 21 * i + j) (nI pu) 0 + nI j
      rw [upd_o _ _ (by omega), t1, t2]
    · show 0 ≤ w.2 0 + nI j
      rw [t1, nI_add]; exact nI_pos' (by omega)
    · intro ah wh wh2 g1 g2 g3 g4 g5
      by_cases ea : ah = j
      · subst ea
        by_cases e1 : wh = i
        · by_cases e2 : wh2 = i
          · omega
          · rw [e1, upd_s, upd_o _ _ (by omega)] at g4
            exact absurd g4.symm (hno wh2 g3)
        · by_cases e2 : wh2 = i
          · rw [e2, upd_s, upd_o _ _ (by omega)] at g4
            exact absurd g4 (hno wh g2)
          · rw [upd_o _ _ (by omega), upd_o _ _ (by omega)] at g4
            rw [upd_o _ _ (by omega)] at g5
            exact h6 ah wh wh2 g1 g2 g3 g4 g5
      · rw [upd_o _ _ (by omega), upd_o _ _ (by omega)] at g4
        rw [upd_o _ _ (by omega)] at g5
        exact h6 ah wh wh2 g1 g2 g3 g4 g5
/-! giveBack -/
def zNoGive (z : Nat → Int32) (q ah : Int32) : Int32 := if vX7_isPupil (mz z) q = true then (if isW ah 0 20 = true then (if zWh z q (cl ah) 5 < 0 then -5 else if ah = 0 then (if z (25 + cl q) = 1 then -5 else 0) else 0) else -2) else -1
theorem S_give {K : Nat} {w : WS} {z : Nat → Int32} (h : WR K w z) (q ah : Int32) : Swk K w (vX5_cancelBooking w q ah) (wX5_cancelBooking w q ah) (zNoGive z q ah) (zWh z q (cl ah) 5) (upd z (215 + (21 * cl (zWh z q (cl ah) 5)) + cl ah) (-6)) := by
  obtain ⟨n, np, nt, hs, h1, h2, h3, h4, h5, h6, h7, h8, h9⟩ := h
  obtain ⟨⟨b1, b2, b3⟩, n1, ⟨p1, p2⟩, ⟨t1, t2⟩, x1, f1⟩ := id hs
  have hp : vX5_hasPupil w q = vX7_isPupil (mz z) q := hasP_eq p1 p2 (by omega)
  unfold vX5_cancelBooking wX5_cancelBooking zNoGive
  refine Swk_ite (by rw [hp]) (fun a => Swk_ite Iff.rfl (fun c => ?_) (fun _ => Swk_no (by decide))) (fun _ => Swk_no (by decide))
  obtain ⟨pu, hpu, rfl⟩ := (hasP_of p1 (by omega)).mp a
  obtain ⟨j, -, hj, rfl⟩ := isW_of (lo := 0) (hi := 20) (by decide) (by decide) c
  rw [cl_n (p := pu) (by omega), cl_n (p := j) (by omega), wheel_n t1 b3 b2 h5 h6 (ah := j) (by omega) (i6_n (by omega)), thrown_n h4 (by omega)]
  have main : ¬ zWh z (nI pu) j 5 = -6 → Swk K w (zWh z (nI pu) j 5) (cCross w (zWh z (nI pu) j 5) (nI j)) 0 (zWh z (nI pu) j 5) (upd z (215 + (21 * cl (zWh z (nI pu) j 5)) + j) (-6)) := fun hne => by
    rcases zWh_cs (z := z) (q := nI pu) (j := j) 5 with ⟨e, -⟩ | ⟨i, hi, e1, e2⟩
    · exact absurd e hne
    · rw [e1, cl_n (by omega)]
      have hce : cCross w (nI i) (nI j) = wRow w 1 (upd (w.1 1) (5 * ((nt + j) % 21) + i) 0) := by
        unfold cCross
        rw [cell_n t1 b3 (by omega), rPut_n (by omega) (by omega)]
      rw [hce]
      refine Or.inr ⟨rfl, rfl, nI_pos' (by omega), n, np, nt, WRs_c hs (fun _ _ _ => rfl) (fun i hi => (by simp only [upd, if_true, if_false]; repeat (first | rw [if_pos (by omega)] | rw [if_neg (by omega)]))), WRset_c h1 (fun _ _ => rfl) (fun i hi => (by simp only [upd, if_true, if_false]; repeat (first | rw [if_pos (by omega)] | rw [if_neg (by omega)]))), WRgl_c h2 (fun _ _ => rfl) (fun i hi => (by simp only [upd, if_true, if_false]; repeat (first | rw [if_pos (by omega)] | rw [if_neg (by omega)]))), WRfee_c h3 (fun _ _ => rfl) (fun i hi => (by simp only [upd, if_true, if_false]; repeat (first | rw [if_pos (by omega)] | rw [if_neg (by omega)]))) (by simp only [upd, if_true, if_false]; repeat (first | rw [if_pos (by omega)] | rw [if_neg (by omega)])), WRthr_c h4 rfl (fun i hi => (by simp only [upd, if_true, if_false]; repeat (first | rw [if_pos (by omega)] | rw [if_neg (by omega)]))), WRbk_u h5 (by omega) (by omega) (Or.inl ⟨rfl, rfl⟩), ?_, WRpt_c h7 b1 (Nat.le_add_right _ _) (Nat.le_refl _) (Nat.le_refl _) (fun r r1 r2 p hp => congrFun (va_up_of _ (by omega) _) p) (fun i i1 i2 => (by simp only [upd, if_true, if_false]; repeat (first | rw [if_pos (by omega)] | rw [if_neg (by omega)]))), WRdi_c h8 b1 (fun i i1 i2 => (by simp only [upd, if_true, if_false]; repeat (first | rw [if_pos (by omega)] | rw [if_neg (by omega)]))), WRbr_c h9 b1 (fun i i1 i2 => (by simp only [upd, if_true, if_false]; repeat (first | rw [if_pos (by omega)] | rw [if_neg (by omega)]))) (by simp only [upd, if_true, if_false]; repeat (first | rw [if_pos (by omega)] | rw [if_neg (by omega)]))⟩
      intro ah wh wh2 g1 g2 g3 g4 g5
      by_cases e3 : wh = i ∧ ah = j
      · obtain ⟨rfl, rfl⟩ := e3
        rw [upd_s] at g5; exact absurd rfl g5
      · rw [upd_o _ _ (by omega)] at g5
        rw [upd_o _ _ (by omega)] at g4
        by_cases e4 : wh2 = i ∧ ah = j
        · obtain ⟨rfl, rfl⟩ := e4
          rw [upd_s] at g4; exact absurd g4 g5
        · rw [upd_o _ _ (by omega)] at g4
          exact h6 ah wh wh2 g1 g2 g3 g4 g5
  by_cases hne : zWh z (nI pu) j 5 = -6
  · rw [if_pos hne, if_pos hne, if_pos ((zWh_6 (by decide)).mp hne)]
    exact Swk_no (by decide)
  · rw [if_neg hne, if_neg hne, if_neg (fun x => hne ((zWh_6 (by decide)).mpr x))]
    refine Swk_ite Iff.rfl (fun e0 => ?_) (fun _ => main hne)
    by_cases ht : z (25 + pu) = 1
    · rw [decide_eq_true ht, if_pos rfl, if_pos rfl, if_pos ht]; exact Swk_no (by decide)
    · rw [decide_eq_false ht, if_neg (by decide), if_neg (by decide), if_neg ht]; exact main hne
