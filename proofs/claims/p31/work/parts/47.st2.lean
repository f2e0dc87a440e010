/-! pots: loading, unloading, glazing, filling, taking home, throwing -/
theorem wN_n {w : WS} {n : Nat} (h : w.2 2 = nI n) (hn : n ≤ 20) : wN w = n := by unfold wN; rw [h]; exact nI_clamp (by omega)
theorem mzN {z : Nat → Int32} {n : Nat} (h : z 7 = nI n) (hn : n ≤ 20) : mN (mz z) = n := mN_n (y := mz z) h hn
theorem PT_u {K K2 np np2 nt nt2 : Nat} {w w2 : WS} {z z2 : Nat → Int32} {p : Nat} (h : PT K np nt w z p) (hp : np ≤ np2) (hw2 : w2.1 2 p = w.1 2 p) (hw3 : w2.1 3 p = w.1 3 p) (hw4 : w2.1 4 p = w.1 4 p) (hz : ∀ k, k < 3 → z2 (35 + 9 * p + k) = z (35 + 9 * p + k)) (hd : w2.1 7 p = z2 (35 + 9 * p + 6) ∧ ∃ q : Nat, q ≤ 2 * nt2 ∧ z2 (35 + 9 * p + 6) = nI q) (hf : w2.1 9 p = z2 (35 + 9 * p + 8) ∧ ∃ q : Nat, q ≤ K2 ∧ z2 (35 + 9 * p + 8) = nI q)
    (hk : ∃ kd : Nat, kd ≤ 4 ∧ (w2.1 5 p = nI kd ∧ z2 (35 + 9 * p + 3) = nI kd) ∧ SP (w2.1 6 p) (z2 (35 + 9 * p + 4)) (z2 (35 + 9 * p + 5)) kd ∧ ((kd = 2 ∨ kd = 3) → w2.1 8 p = z2 (35 + 9 * p + 7)) ∧ (¬ (kd = 2 ∨ kd = 3) → z2 (35 + 9 * p + 7) = -6)) : PT K2 np2 nt2 w2 z2 p := by
  obtain ⟨⟨a1, q1, a2, a3⟩, ⟨b1, q2, b2, b3⟩, c1, -⟩ := h
  have z0 : z2 (35 + 9 * p) = z (35 + 9 * p) := hz 0 (by omega)
  unfold PT
  refine ⟨?_, ?_, ?_, hd, hf, hk⟩
  · rw [hw2, z0]; exact ⟨a1, q1, by omega, a3⟩
  · rw [hw3, hz 1 (by omega)]; exact ⟨b1, q2, b2, b3⟩
  · rw [hw4, hz 2 (by omega)]; exact c1
theorem WRpt_1 {K K2 n np nt : Nat} {w w2 : WS} {z z2 : Nat → Int32} {i : Nat} (h : WRpt K n np nt w z) (hn : n ≤ 20) (hK : K ≤ K2) (hw : ∀ r p, 2 ≤ r → r ≤ 9 → p < 20 → p ≠ i → w2.1 r p = w.1 r p) (hz : ∀ p k, p < 20 → p ≠ i → k < 9 → z2 (35 + 9 * p + k) = z (35 + 9 * p + k)) (hi : PT K2 np nt w2 z2 i) : WRpt K2 n np nt w2 z2 := fun p hp => by
  by_cases e : p = i
  · subst e; exact hi
  · exact PT_c (h p hp) hK (Nat.le_refl _) (Nat.le_refl _) (fun r r1 r2 => hw r p r1 r2 (by omega) e) (fun k hk => hz p k (by omega) e hk)
theorem WRdi_1 {n : Nat} {z z2 : Nat → Int32} {i : Nat} (h : WRdi n z) (hn : n ≤ 20) (hz : ∀ p k, p < 20 → p ≠ i → k < 9 → z2 (35 + 9 * p + k) = z (35 + 9 * p + k)) (hi : z2 (35 + 9 * i + 4) = 0 → ∀ p, p < n → p ≠ i → z (35 + 9 * p + 4) = 0 → z (35 + 9 * p + 5) ≠ z2 (35 + 9 * i + 5)) : WRdi n z2 := fun p q hp hq hne h1 h2 => by
  by_cases e1 : p = i
  · subst e1
    rw [hz q 4 (by omega) (Ne.symm hne) (by omega)] at h2
    rw [hz q 5 (by omega) (Ne.symm hne) (by omega)]
    exact (hi h1 q hq (Ne.symm hne) h2).symm
  · rw [hz p 4 (by omega) e1 (by omega)] at h1
    rw [hz p 5 (by omega) e1 (by omega)]
    by_cases e2 : q = i
    · subst e2
      exact hi h2 p hp e1 h1
    · rw [hz q 4 (by omega) e2 (by omega)] at h2
      rw [hz q 5 (by omega) e2 (by omega)]
      exact h p q hp hq hne h1 h2
theorem WRbr_1 {n : Nat} {z z2 : Nat → Int32} (h : WRbr n z) (hk : ∀ p, p < n → decide (z2 (35 + 9 * p + 3) = 4) = decide (z (35 + 9 * p + 3) = 4)) (h9 : z2 9 = z 9) : WRbr n z2 := by
  show z2 9 = _
  rw [h9, h]
  exact congrArg nI (fb_ct_cong (fun k hk2 => (hk k hk2).symm))
section PR2
variable {K n np nt : Nat} {w : WS} {z : Nat → Int32}
theorem sz_n (h : WRpt K n np nt w z) (hn : n ≤ 20) : ∀ m, m ≤ n → cSz w m = zSz z m ∧ ∃ c : Nat, c ≤ 3 * m ∧ zSz z m = nI c
  | 0, _ => ⟨rfl, 0, by omega, rfl⟩
  | m + 1, hm => by
    obtain ⟨ih1, c, ih2, ih3⟩ := sz_n h hn m (by omega)
    show (if cKiln w (nI m) = true then cSz w m + rAt 20 (w.1 3) (nI m) else cSz w m) = (if z (35 + 9 * m + 4) = 1 then zSz z m + z (35 + 9 * m + 1) else zSz z m) ∧ ∃ c : Nat, c ≤ 3 * (m + 1) ∧ (if z (35 + 9 * m + 4) = 1 then zSz z m + z (35 + 9 * m + 1) else zSz z m) = nI c
    rw [pt_kiln h hn (by omega), pt_size h hn (by omega), ih1]
    obtain ⟨-, q, q1, q2⟩ := (h m (by omega)).2.1
    by_cases e : z (35 + 9 * m + 4) = 1
    · rw [decide_eq_true e, if_pos rfl, if_pos e, ih3, q2, nI_add]
      exact ⟨rfl, _, by omega, rfl⟩
    · rw [decide_eq_false e, if_neg (by decide), if_neg e, ih3]
      exact ⟨rfl, _, by omega, rfl⟩
theorem sizes_n (h : WRpt K n np nt w z) (hn : n ≤ 20) (h2 : w.2 2 = nI n) : cSizes w = zSz z n := by
  unfold cSizes
  rw [wN_n h2 hn]
  exact (sz_n h hn n (Nat.le_refl _)).1
theorem inK_n (h : WRpt K n np nt w z) (hn : n ≤ 20) (h2 : w.2 2 = nI n) : cInKiln w = mk (zPA z 1) n := by
  unfold cInKiln cIdx
  rw [wN_n h2 hn, Nat.min_eq_left hn]
  refine mk_cong (fun j hj => ?_)
  have := pt_kiln h hn hj
  unfold cKiln at this
  rw [rAt_n (by omega) (by omega)] at this
  exact this
theorem ofK_n (h : WRpt K n np nt w z) (hn : n ≤ 20) (h2 : w.2 2 = nI n) (kd : Int32) : cOfKind w kd = mk (fun j => decide (z (35 + 9 * j + 3) = kd)) n := by
  unfold cOfKind cIdx
  rw [wN_n h2 hn, Nat.min_eq_left hn]
  refine mk_cong (fun j hj => ?_)
  have := pt_kind h hn hj
  rw [rAt_n (by omega) (by omega)] at this
  rw [this]
theorem zOther_f {z : Nat → Int32} {kd : Int32} : ∀ {m : Nat}, zOther z kd m = false ↔ ∀ i, i < m → (zPA z 1 i && !decide (z (35 + 9 * i + 3) = kd)) = false
  | 0 => ⟨fun _ i hi => absurd hi (Nat.not_lt_zero _), fun _ => rfl⟩
  | m + 1 => by
    have ih := zOther_f (z := z) (kd := kd) (m := m)
    have e : zOther z kd (m + 1) = (zOther z kd m || (zPA z 1 m && !decide (z (35 + 9 * m + 3) = kd))) := by
      show (zOther z kd m || (decide (z (35 + 9 * m + 4) = 1) && decide (¬ z (35 + 9 * m + 3) = kd))) = _
      rw [decide_not]; rfl
    rw [e, Bool.or_eq_false_iff, ih]
    constructor
    · rintro ⟨h1, h2⟩ i hi
      by_cases hm : i = m
      · subst hm; exact h2
      · exact h1 i (by omega)
    · intro h1
      exact ⟨fun i hi => h1 i (by omega), h1 m (by omega)⟩
theorem other_n (h : WRpt K n np nt w z) (hn : n ≤ 20) (h2 : w.2 2 = nI n) (kd : Int32) : cOther w kd = zOther z kd n := by
  unfold cOther
  rw [inK_n h hn h2, ofK_n h hn h2, mk_sub (by omega)]
  have e := mk_0 (P := fun i => zPA z 1 i && !decide (z (35 + 9 * i + 3) = kd)) (n := n) (by omega)
  cases a : zOther z kd n with
  | false => exact decide_eq_false (fun x => x (e.mpr (zOther_f.mp a)))
  | true => exact decide_eq_true (fun x => by have := zOther_f.mpr (e.mp x); rw [a] at this; cases this)
theorem lack_n (h : WRpt K n np nt w z) (hn : n ≤ 20) (hset : WRset w z) {p : Nat} (hp : p < n) : vX5_nightsLacking w (nI p) = if vX7_toDry (mz z) (nI p) p < 0 then 0 else vX7_toDry (mz z) (nI p) p := by
  unfold vX5_nightsLacking
  rw [pt_size h hn hp, pt_dried h hn hp, show rAt 4 (w.1 0) 0 = z 2 from (rAt_n (n := 4) (p := 0) (by decide) (by decide)).trans (hset 0 (by decide)).1]
  rfl
theorem le0_if {t : Int32} : (if t < 0 then 0 else t) ≤ 0 ↔ t ≤ 0 := by
  by_cases h : t < 0
  · rw [if_pos h]; exact ⟨fun _ => (fa_of_lt h).1, fun _ => z00⟩
  · rw [if_neg h]
theorem why_n (h : WRpt K n np nt w z) (hn : n ≤ 20) (hset : WRset w z) (h2 : w.2 2 = nI n) (h7 : z 7 = nI n) {p : Nat} (hp : p < n) : vX5_reasonAgainstLoading w (nI p) = vX7_whyNot (mz z) (nI p) p := by
  have hc : cHas w (nI p) = true := (cHas_of h2 (by omega)).mpr ⟨p, hp, rfl⟩
  have hk : rAt 4 (w.1 0) 1 = z 3 := (rAt_n (n := 4) (p := 1) (by decide) (by decide)).trans (hset 1 (by decide)).1
  have hm : mN (mz z) = n := mzN h7 hn
  unfold vX5_reasonAgainstLoading vX7_whyNot
  rw [if_pos hc, hm, hk]
  simp only [pt_rack h hn hp, pt_isk h hn hp, pt_kind h hn hp, pt_size h hn hp, other_n h hn h2, sizes_n h hn h2, lack_n h hn hset hp, le0_if, decide_eq_true_eq]
  rfl
end PR2
theorem why_le (y : MS) (q : Int32) (i : Nat) : (vX7_whyNot y q i ≤ 0 ↔ vX7_whyNot y q i = 0) ∧ vX7_whyNot y q i ≠ -1 ∧ 0 ≤ vX7_whyNot y q i := by
  unfold vX7_whyNot
  repeat' split
  all_goals decide
theorem why_0 {y : MS} {q : Int32} {i : Nat} (h : vX7_whyNot y q i = 0) : y.1 0 (35 + 9 * i + 4) = 0 ∧ (y.1 0 (35 + 9 * i + 3) = 0 ∨ y.1 0 (35 + 9 * i + 3) = 2) := by
  unfold vX7_whyNot at h
  by_cases a : y.1 0 (35 + 9 * i + 4) = 0
  · refine ⟨a, ?_⟩
    rw [if_pos a] at h
    by_cases b : y.1 0 (35 + 9 * i + 3) = 0
    · exact Or.inl b
    · rw [if_neg b] at h
      by_cases c : y.1 0 (35 + 9 * i + 3) = 2
      · exact Or.inr c
      · rw [if_neg c] at h; exact absurd h (by decide)
  · rw [if_neg a] at h; exact absurd h (by decide)
theorem S_load {K : Nat} {w : WS} {z : Nat → Int32} (h : WR K w z) (q : Int32) : Swk K w (vX5_moveIntoKiln w q) (wX5_moveIntoKiln w q) (vX7_noLoad (mz z) q) (vX7_doLoad (mz z) q (cl q)) ((wX7_doLoad (mz z) q (cl q)).1 0) := by
  obtain ⟨n, np, nt, hs, h1, h2, h3, h4, h5, h6, h7, h8, h9⟩ := h
  obtain ⟨⟨b1, b2, b3⟩, ⟨n1, n2⟩, ⟨p1, p2⟩, ⟨t1, t2⟩, x1, f1⟩ := id hs
  have hp : cHas w q = vX7_isPot (mz z) q := cHas_eq n1 n2 (by omega)
  show Swk K w _ _ (if vX7_isPot (mz z) q = true then (if vX7_whyNot (mz z) q (cl q) ≤ 0 then 0 else -5) else -1) (zSz (upd (upd z (35 + 9 * cl q + 4) 1) (35 + 9 * cl q + 5) (-6)) (mN (mz (upd (upd z (35 + 9 * cl q + 4) 1) (35 + 9 * cl q + 5) (-6))))) (upd (upd z (35 + 9 * cl q + 4) 1) (35 + 9 * cl q + 5) (-6))
  unfold vX5_moveIntoKiln wX5_moveIntoKiln
  by_cases hc : cHas w q = true
  · rw [if_pos (show vX7_isPot (mz z) q = true by rw [← hp]; exact hc)]
    obtain ⟨p, hpn, rfl⟩ := (cHas_of n1 (by omega)).mp hc
    rw [cl_n (by omega), why_n h7 b1 h1 n1 n2 hpn]
    have wl := why_le (mz z) (nI p) p
    refine Swk_ite wl.1.symm (fun a => ?_) (fun a => ?_)
    · obtain ⟨r0, rk⟩ := why_0 a
      have r0 : z (35 + 9 * p + 4) = 0 := r0
      have rk : z (35 + 9 * p + 3) = 0 ∨ z (35 + 9 * p + 3) = 2 := rk
      rw [rPut_n (by omega) (by omega)]
      have zo : ∀ i, i ≠ 35 + 9 * p + 4 → i ≠ 35 + 9 * p + 5 → upd (upd z (35 + 9 * p + 4) 1) (35 + 9 * p + 5) (-6) i = z i := fun i i1 i2 => by rw [upd_o _ _ i2, upd_o _ _ i1]
      have hW : WRn (K + 20) n np nt (wRow w 6 (upd (w.1 6) p 24)) (upd (upd z (35 + 9 * p + 4) 1) (35 + 9 * p + 5) (-6)) := by
        refine ⟨WRs_c hs (fun _ _ _ => rfl) (fun i hi => zo i (by omega) (by omega)), WRset_c h1 (fun _ _ => rfl) (fun i hi => zo _ (by omega) (by omega)), WRgl_c h2 (fun _ _ => rfl) (fun i hi => zo _ (by omega) (by omega)), WRfee_c h3 (fun _ _ => rfl) (fun i hi => zo _ (by omega) (by omega)) (zo _ (by omega) (by omega)), WRthr_c h4 rfl (fun i hi => zo _ (by omega) (by omega)), WRbk_c h5 (fun _ _ => rfl) (fun i hi => zo _ (by omega) (by omega)), WRun_c h6 (fun i hi => zo _ (by omega) (by omega)), ?_, ?_, WRbr_1 h9 (fun p2 hp2 => by rw [zo _ (by omega) (by omega)]) (zo _ (by omega) (by omega))⟩
        · refine WRpt_1 (i := p) h7 b1 (Nat.le_add_right _ _) (fun r p2 r1 r2 r3 r4 => ?_) (fun p2 k r3 r4 r5 => zo _ (by omega) (by omega)) ?_
          · show va_up w.1 6 (upd (w.1 6) p 24) r p2 = _
            by_cases e : r = 6
            · subst e; rw [va_up_at, upd_o _ _ r4]
            · rw [va_up_of _ e]
          · obtain ⟨-, -, -, ⟨d1, d2⟩, ⟨e1, q4, e2, e3⟩, kd, k1, ⟨k2, k3⟩, k4, k5, k6⟩ := id (h7 p hpn)
            refine PT_u (h7 p hpn) (Nat.le_refl _) rfl rfl rfl (fun k hk => zo _ (by omega) (by omega)) ?_ ?_ ⟨kd, k1, ⟨k2, ?_⟩, Or.inr (Or.inl ⟨?_, ?_, ?_⟩), ?_, ?_⟩
            · rw [zo _ (by omega) (by omega)]; exact ⟨d1, d2⟩
            · rw [zo _ (by omega) (by omega)]; exact ⟨e1, q4, by omega, e3⟩
            · rw [zo _ (by omega) (by omega)]; exact k3
            · rw [upd_o _ _ (by omega), upd_s]
            · exact upd_s _ _ _
            · rcases rk with rk | rk
              · rw [k3] at rk; exact Or.inl ((nI_eq (b := 0) (by omega) (by decide)).mp rk)
              · rw [k3] at rk; exact Or.inr ((nI_eq (b := 2) (by omega) (by decide)).mp rk)
            · rw [zo _ (by omega) (by omega)]; exact k5
            · rw [zo _ (by omega) (by omega)]; exact k6
        · refine WRdi_1 (i := p) h8 b1 (fun p2 k r3 r4 r5 => zo _ (by omega) (by omega)) (fun e => ?_)
          rw [upd_o _ _ (by omega), upd_s] at e
          exact absurd e (by decide)
      have n7 : (upd (upd z (35 + 9 * p + 4) 1) (35 + 9 * p + 5) (-6)) 7 = nI n := (zo 7 (by omega) (by omega)).trans n2
      rw [mzN n7 b1, sizes_n hW.2.2.2.2.2.2.2.1 b1 n1]
      obtain ⟨-, c, c1, c2⟩ := sz_n hW.2.2.2.2.2.2.2.1 b1 n (Nat.le_refl _)
      exact Or.inr ⟨rfl, rfl, by rw [c2]; exact nI_pos' (by omega), n, np, nt, hW⟩
    · rw [if_neg wl.2.1, if_neg wl.2.1]
      exact Swk_no (by decide)
  · rw [if_neg (show ¬ vX7_isPot (mz z) q = true by rw [← hp]; exact hc)]
    have e : vX5_reasonAgainstLoading w q = -1 := by
      unfold vX5_reasonAgainstLoading
      rw [if_neg hc]
    rw [e, if_neg (show ¬ (-1 : Int32) = 0 by decide), if_neg (show ¬ (-1 : Int32) = 0 by decide), if_pos rfl, if_pos rfl]
    exact Swk_no (by decide)
/-! a place on a rack -/
theorem zTk_all {z : Nat → Int32} {pl : Int32} : ∀ {m : Nat}, zTk z pl m = false → ∀ p, p < m → z (35 + 9 * p + 4) = 0 → z (35 + 9 * p + 5) ≠ pl
  | 0, _, p, hp => absurd hp (Nat.not_lt_zero _)
  | m + 1, h, p, hp => by
    have h : (zTk z pl m || (decide (z (35 + 9 * m + 4) = 0) && decide (z (35 + 9 * m + 5) = pl))) = false := h
    rw [Bool.or_eq_false_iff] at h
    intro e1 e2
    by_cases hm : p = m
    · subst hm
      have h2 := h.2
      rw [decide_eq_true e1, decide_eq_true e2] at h2
      cases h2
    · exact zTk_all h.1 p (by omega) e1 e2
theorem zPl_n {z : Nat → Int32} {n : Nat} (h7 : z 7 = nI n) (hn : n ≤ 20) : ∃ j : Nat, j < 21 ∧ zPlace (mz z) = nI j ∧ ∀ p, p < n → z (35 + 9 * p + 4) = 0 → z (35 + 9 * p + 5) ≠ nI j := by
  have hm : mN (mz z) = n := mzN h7 hn
  obtain ⟨j, hj, hf⟩ := zFree_ex (mz z) (by rw [hm]; exact hn)
  obtain ⟨a, b⟩ := fnN_stop (P := zFreeP (mz z)) (n := 21) (i := 0) ⟨j, by omega, by omega, hf⟩
  refine ⟨_, by omega, rfl, ?_⟩
  have a : zTk z (nI (fnN (zFreeP (mz z)) 0 21)) (mN (mz z)) = false := a
  rw [hm] at a
  exact zTk_all a
theorem cTk_c {w X : WS} (h : X.1 6 = w.1 6) : ∀ m, cTk X m = cTk w m
  | 0 => rfl
  | m + 1 => by
    unfold cTk
    rw [h, cTk_c h m]
theorem cTaken_c {w X : WS} (h : X.1 6 = w.1 6) (h2 : X.2 2 = w.2 2) : cTaken X = cTaken w := by
  unfold cTaken wN
  rw [h2]
  exact cTk_c h _
/-! unload -/
def zNoUn (z : Nat → Int32) (q : Int32) : Int32 := if vX7_isPot (mz z) q = true then (if z (35 + 9 * cl q + 4) = 1 then (if vX7_freePlaces (mz z) = 0 then -4 else 0) else -5) else -1
theorem S_unload {K : Nat} {w : WS} {z : Nat → Int32} (h : WR K w z) (q : Int32) : Swk K w (vX5_moveOutOfKiln w q) (wX5_moveOutOfKiln w q) (zNoUn z q) (zPlace (mz z) / 8) (upd (upd z (35 + 9 * cl q + 4) 0) (35 + 9 * cl q + 5) (zPlace (mz z))) := by
  obtain ⟨n, np, nt, hs, h1, h2, h3, h4, h5, h6, h7, h8, h9⟩ := h
  obtain ⟨⟨b1, b2, b3⟩, ⟨n1, n2⟩, ⟨p1, p2⟩, ⟨t1, t2⟩, x1, f1⟩ := id hs
  have hp : cHas w q = vX7_isPot (mz z) q := cHas_eq n1 n2 (by omega)
  unfold vX5_moveOutOfKiln wX5_moveOutOfKiln zNoUn
  refine Swk_ite (by rw [hp]) (fun a => ?_) (fun _ => Swk_no (by decide))
  obtain ⟨p, hpn, rfl⟩ := (cHas_of n1 (by omega)).mp a
  rw [cl_n (by omega), pt_kiln h7 b1 hpn]
  refine Swk_ite decide_eq_true_iff (fun c => ?_) (fun _ => Swk_no (by decide))
  have c := of_decide_eq_true c
  obtain ⟨fr, c4, -, -, fr3⟩ := free_n (y := mz z) h7 h8 b1 n1 n2
  refine Swk_ite (by rw [fr]) (fun _ => Swk_no (by decide)) (fun _ => ?_)
  obtain ⟨j, hj, ej, dj⟩ := zPl_n n2 b1
  have hpl := place_n (y := mz z) h7 b1 n1 n2
  unfold cPutRack
  rw [hpl, ej, rPut_n (by omega) (by omega)]
  have zo : ∀ i, i ≠ 35 + 9 * p + 4 → i ≠ 35 + 9 * p + 5 → upd (upd z (35 + 9 * p + 4) 0) (35 + 9 * p + 5) (nI j) i = z i := fun i i1 i2 => by rw [upd_o _ _ i2, upd_o _ _ i1]
  refine Or.inr ⟨rfl, ?_, ?_, n, np, nt, ?_⟩
  · show rAt 20 (upd (w.1 6) p (nI j)) (nI p) / 8 = _
    rw [rAt_n (by omega) (by omega), upd_s]
  · show 0 ≤ rAt 20 (upd (w.1 6) p (nI j)) (nI p) / 8
    rw [rAt_n (by omega) (by omega), upd_s, show (8 : Int32) = nI 8 from rfl, pk_div (by omega) (by decide) (by decide)]
    exact nI_pos' (by omega)
  · refine ⟨WRs_c hs (fun _ _ _ => rfl) (fun i hi => zo i (by omega) (by omega)), WRset_c h1 (fun _ _ => rfl) (fun i hi => zo _ (by omega) (by omega)), WRgl_c h2 (fun _ _ => rfl) (fun i hi => zo _ (by omega) (by omega)), WRfee_c h3 (fun _ _ => rfl) (fun i hi => zo _ (by omega) (by omega)) (zo _ (by omega) (by omega)), WRthr_c h4 rfl (fun i hi => zo _ (by omega) (by omega)), WRbk_c h5 (fun _ _ => rfl) (fun i hi => zo _ (by omega) (by omega)), WRun_c h6 (fun i hi => zo _ (by omega) (by omega)), ?_, ?_, WRbr_1 h9 (fun p2 hp2 => by rw [zo _ (by omega) (by omega)]) (zo _ (by omega) (by omega))⟩
    · refine WRpt_1 (i := p) h7 b1 (Nat.le_add_right _ _) (fun r p2 r1 r2 r3 r4 => ?_) (fun p2 k r3 r4 r5 => zo _ (by omega) (by omega)) ?_
      · show va_up w.1 6 (upd (w.1 6) p (nI j)) r p2 = _
        by_cases e : r = 6
        · subst e; rw [va_up_at, upd_o _ _ r4]
        · rw [va_up_of _ e]
      · obtain ⟨-, -, -, ⟨d1, d2⟩, ⟨e1, q4, e2, e3⟩, kd, k1, ⟨k2, k3⟩, k4, k5, k6⟩ := id (h7 p hpn)
        refine PT_u (h7 p hpn) (Nat.le_refl _) rfl rfl rfl (fun k hk => zo _ (by omega) (by omega)) ?_ ?_ ⟨kd, k1, ⟨k2, ?_⟩, Or.inl ⟨?_, j, by omega, ?_, ?_⟩, ?_, ?_⟩
        · rw [zo _ (by omega) (by omega)]; exact ⟨d1, d2⟩
        · rw [zo _ (by omega) (by omega)]; exact ⟨e1, q4, by omega, e3⟩
        · rw [zo _ (by omega) (by omega)]; exact k3
        · rw [upd_o _ _ (by omega), upd_s]
        · exact upd_s _ _ _
        · exact upd_s _ _ _
        · rw [zo _ (by omega) (by omega)]; exact k5
        · rw [zo _ (by omega) (by omega)]; exact k6
    · refine WRdi_1 (i := p) h8 b1 (fun p2 k r3 r4 r5 => zo _ (by omega) (by omega)) (fun _ p2 r1 r2 r3 => ?_)
      rw [upd_s]
      exact dj p2 r1 r3
