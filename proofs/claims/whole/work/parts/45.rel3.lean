theorem cpW_row (w w2 : WS) : ∀ r, r < 12 → (wX5_copyFrom w w2).1 r = va_cpy (w2.1 r) (w.1 r) 0 0 (rlen r) := by
  intro r hr
  rcases (show r = 0 ∨ r = 1 ∨ r = 2 ∨ r = 3 ∨ r = 4 ∨ r = 5 ∨ r = 6 ∨ r = 7 ∨ r = 8 ∨ r = 9 ∨ r = 10 ∨ r = 11 by omega) with rfl | rfl | rfl | rfl | rfl | rfl | rfl | rfl | rfl | rfl | rfl | rfl <;> rfl
theorem cpW_sc (w w2 : WS) : ∀ i, i < 6 → (wX5_copyFrom w w2).2 i = w2.2 i := by
  intro r hr
  rcases (show r = 0 ∨ r = 1 ∨ r = 2 ∨ r = 3 ∨ r = 4 ∨ r = 5 by omega) with rfl | rfl | rfl | rfl | rfl | rfl <;> rfl
theorem cpW_in (w w2 : WS) {r j : Nat} (hr : r < 12) (hj : j < rlen r) : (wX5_copyFrom w w2).1 r j = w2.1 r j := by
  rw [cpW_row w w2 r hr]
  unfold va_cpy
  rw [if_pos (by omega), Nat.zero_add, Nat.sub_zero]
theorem WR_w {K : Nat} {w w2 : WS} {z : Nat → Int32} (h : WR K w z) (hr : ∀ r j, r < 12 → j < rlen r → w2.1 r j = w.1 r j) (hs : ∀ i, i < 6 → w2.2 i = w.2 i) : WR K w2 z := by
  obtain ⟨n, np, nt, hs0, h1, h2, h3, h4, h5, h6, h7, h8, h9⟩ := h
  refine ⟨n, np, nt, ?_, WRset_c h1 (fun i hi => hr 0 i (by omega) hi) (fun _ _ => rfl), WRgl_c h2 (fun i hi => hr 10 i (by omega) hi) (fun _ _ => rfl), WRfee_c h3 (fun i hi => hr 11 i (by omega) hi) (fun _ _ => rfl) rfl, WRthr_c h4 (hs 1 (by omega)) (fun _ _ => rfl), WRbk_c h5 (fun i hi => hr 1 i (by omega) hi) (fun _ _ => rfl), h6, WRpt_c h7 hs0.1.1 (Nat.le_refl _) (Nat.le_refl _) (Nat.le_refl _) (fun r r1 r2 p hp => hr r p (by omega) ?_) (fun _ _ _ => rfl), h8, h9⟩
  · unfold WRs at hs0 ⊢
    rw [hs 2 (by omega), hs 3 (by omega), hs 0 (by omega), hs 4 (by omega), hs 5 (by omega)]
    exact hs0
  · rcases (show r = 2 ∨ r = 3 ∨ r = 4 ∨ r = 5 ∨ r = 6 ∨ r = 7 ∨ r = 8 ∨ r = 9 by omega) with rfl | rfl | rfl | rfl | rfl | rfl | rfl | rfl <;> exact hp
theorem WR_cp {K : Nat} {w w2 : WS} {z : Nat → Int32} (h : WR K w2 z) : WR K (wX5_copyFrom w w2) z := WR_w h (fun _ _ hr hj => cpW_in w w2 hr hj) (cpW_sc w w2)
/-! the face and the reference -/
def blk (g : Nat → Int32) (b : Nat) : Nat → Int32 := fun j => g (320 * b + j)
def Rel (K : Nat) (q : PS) (y : MS) : Prop := ∃ nx kp n : Nat, (nx < 7 ∧ kp ≤ 6 ∧ n ≤ 80) ∧ (pH q 0 = nI nx ∧ pH q 1 = nI kp ∧ y.2 0 = nI kp) ∧ WR K q.1 (y.1 0) ∧ (∀ k, k < kp → WR K (pRing q ((nx + 7 - kp + k) % 7)) (blk (y.1 1) k)) ∧
  (∀ i, i < 2 → (pSlot q i = none ∧ y.1 3 i = 0) ∨ ∃ w, pSlot q i = some w ∧ y.1 3 i = 1 ∧ WR K w (blk (y.1 2) i)) ∧ (pPad q).2 0 = nI n ∧ y.2 1 = nI n ∧ ∀ i, i < n → (pPad q).1 0 i = y.1 4 i
theorem Rel_K {K K2 : Nat} {q : PS} {y : MS} (h : Rel K q y) (hK : K ≤ K2) : Rel K2 q y := by
  obtain ⟨nx, kp, n, a, b, c, d, e, f⟩ := h
  refine ⟨nx, kp, n, a, b, WR_K c hK, fun k hk => WR_K (d k hk) hK, fun i hi => ?_, f⟩
  rcases e i hi with x | ⟨w, x1, x2, x3⟩
  · exact Or.inl x
  · exact Or.inr ⟨w, x1, x2, WR_K x3 hK⟩
/-- a pad that differs only in what it has read -/
theorem Rel_pad {K : Nat} {q : PS} {y y2 : MS} {pd : DS} (h : Rel K q y) (hp : padEq (pPad q) pd) (hy : mEq y y2) : Rel K (pwPad q pd) y2 := by
  obtain ⟨nx, kp, n, a, ⟨b1, b2, b3⟩, c, d, e, f1, f2, f3⟩ := h
  obtain ⟨y1, y20, y21⟩ := hy
  refine ⟨nx, kp, n, a, ⟨b1, b2, y20.trans b3⟩, by rw [y1]; exact c, fun k hk => by rw [y1]; exact d k hk, fun i hi => by rw [y1]; exact e i hi, hp.2.trans f1, y21.trans f2, fun i hi => ?_⟩
  rw [y1, ← f3 i hi]
  show pd.1 0 i = _
  rw [hp.1]
theorem Rel_pre {K : Nat} {q : PS} {y : MS} (h : Rel K q y) : Rel K (wX1_prepare q) y := by
  obtain ⟨nx, kp, n, a, ⟨b1, b2, b3⟩, c, d, e, f⟩ := h
  refine ⟨nx, kp, n, a, ⟨b1, b2, b3⟩, c, fun k hk => ?_, e, f⟩
  show WR K ((va_up (pRing q) (cl (pH q 0)) _) _) _
  have hc : cl (pH q 0) = nx := by rw [b1]; exact cl_n (by omega)
  rw [va_up_of _ (by rw [hc]; omega)]
  exact d k hk
theorem prep_at {K : Nat} {q : PS} {y : MS} {nx : Nat} (h : WR K q.1 (y.1 0)) (b1 : pH q 0 = nI nx) (hn : nx < 7) : WR K (pRing (wX1_prepare q) nx) (y.1 0) := by
  have hc : cl (pH q 0) = nx := by rw [b1]; exact cl_n (by omega)
  show WR K ((va_up (pRing q) (cl (pH q 0)) _) nx) _
  rw [hc, va_up_at]
  exact WR_cp h
theorem rec_fail {K : Nat} {q : PS} {y : MS} {v : Int32} {w : WS} (h : Rel K q y) (hv : v < 0) (hw : w = q.1) : Rel K (wX1_record (pwNow (wX1_prepare q) w) v) y := by
  rw [show wX1_record (pwNow (wX1_prepare q) w) v = pwNow (wX1_prepare q) w from if_pos hv, hw]
  exact Rel_pre h
theorem nn_lt {v : Int32} (h : 0 ≤ v) : ¬ v < 0 := (Int32.not_lt).mpr h
theorem rec_step {K K2 : Nat} {q : PS} {y : MS} {v : Int32} {w : WS} {z : Nat → Int32} (h : Rel K q y) (hv : 0 ≤ v) (hw : WR K2 w z) (hK : K ≤ K2) : Rel K2 (wX1_record (pwNow (wX1_prepare q) w) v) (mRow (mRec y) 0 z) := by
  rw [show wX1_record (pwNow (wX1_prepare q) w) v = _ from if_neg (nn_lt hv)]
  have hp := Rel_pre h
  obtain ⟨nx, kp, n, ⟨a1, a2, a3⟩, ⟨b1, b2, b3⟩, c, d, e, f1, f2, f3⟩ := hp
  have hpa := prep_at (q := q) c b1 a1
  have en : (pH q 0 + 1) - (pH q 0 + 1) / 7 * 7 = nI ((nx + 1) % 7) := by
    rw [show pH q 0 = nI nx from b1, show (1 : Int32) = nI 1 from rfl, nI_add, show (7 : Int32) = nI 7 from rfl, pk_rem (by omega) (by decide) (by decide)]
  have ek : (if 6 < pH q 1 + 1 then (6 : Int32) else pH q 1 + 1) = nI (if kp = 6 then 6 else kp + 1) := by
    rw [show pH q 1 = nI kp from b2, show (1 : Int32) = nI 1 from rfl, nI_add]
    by_cases e6 : kp = 6
    · rw [if_pos e6, if_pos (show (6 : Int32) < nI (kp + 1) from (nI_ltI (a := 6) (b := kp + 1) (by decide) (by omega)).mpr (by omega))]; rfl
    · rw [if_neg e6, if_neg (fun z => by have := (nI_ltI (a := 6) (b := kp + 1) (by decide) (by omega)).mp z; omega)]
  have hkn : mKn y = kp := by unfold mKn; rw [b3]; exact cl_n (by omega)
  have h6 : y.2 0 = 6 ↔ kp = 6 := by rw [b3]; exact nI_eq (b := 6) (by omega) (by decide)
  have er : mRecK y = if kp = 6 then 5 else kp := by
    unfold mRecK
    by_cases e6 : kp = 6
    · rw [if_pos (h6.mpr e6), if_pos e6]
    · rw [if_neg (fun z => e6 (h6.mp z)), if_neg e6, hkn]
  refine ⟨(nx + 1) % 7, if kp = 6 then 6 else kp + 1, n, ⟨Nat.mod_lt _ (by decide), by split <;> omega, a3⟩, ⟨en, ek, ?_⟩, ?_, fun k hk => ?_, fun i hi => ?_, f1, f2, f3⟩
  · show nI (mRecK y + 1) = _
    rw [er]
    split <;> rfl
  · show WR K2 w ((mRow (mRec y) 0 z).1 0)
    rw [mRow_at]; exact hw
  · show WR K2 (pRing (wX1_prepare q) _) (blk (va_cpy (y.1 0) (mRecG y) 0 (320 * mRecK y) 320) k)
    rw [er]
    by_cases e6 : kp = 6
    · simp only [e6, if_true] at hk ⊢
      by_cases k5 : k = 5
      · subst k5
        rw [show ((nx + 1) % 7 + 7 - 6 + 5) % 7 = nx by omega]
        refine WR_z (WR_K hpa hK) (fun j hj => ?_)
        unfold blk va_cpy
        rw [if_pos (by omega)]
        exact congrArg (y.1 0) (by omega)
      · rw [show ((nx + 1) % 7 + 7 - 6 + k) % 7 = (nx + 7 - kp + (k + 1)) % 7 by omega]
        refine WR_z (WR_K (d (k + 1) (by omega)) hK) (fun j hj => ?_)
        unfold blk va_cpy mRecG
        rw [if_neg (by omega), if_pos (h6.mpr e6)]
        unfold va_cpy
        rw [if_pos (by omega)]
        exact congrArg (y.1 1) (by omega)
    · simp only [e6, if_false] at hk ⊢
      by_cases kk : k = kp
      · subst kk
        rw [show ((nx + 1) % 7 + 7 - (k + 1) + k) % 7 = nx by omega]
        refine WR_z (WR_K hpa hK) (fun j hj => ?_)
        unfold blk va_cpy
        rw [if_pos (by omega)]
        exact congrArg (y.1 0) (by omega)
      · rw [show ((nx + 1) % 7 + 7 - (kp + 1) + k) % 7 = (nx + 7 - kp + k) % 7 by omega]
        refine WR_z (WR_K (d k (by omega)) hK) (fun j hj => ?_)
        unfold blk va_cpy mRecG
        rw [if_neg (by omega), if_neg (fun z => e6 (h6.mp z))]
  · rcases e i hi with x | ⟨w3, x1, x2, x3⟩
    · exact Or.inl x
    · exact Or.inr ⟨w3, x1, x2, WR_K x3 hK⟩
theorem vrec (q : PS) (v : Int32) : vX1_record q v = v := by unfold vX1_record; split <;> rfl
/-! undo, save, restore -/
theorem R_undo {K : Nat} {q : PS} {y : MS} (h : Rel K q y) : vX6_undo q = mUndoV y ∧ Rel K (wX6_undo q) (mUndo y) := by
  obtain ⟨nx, kp, n, ⟨a1, a2, a3⟩, ⟨b1, b2, b3⟩, c, d, e, f1, f2, f3⟩ := h
  have hkn : mKn y = kp := by unfold mKn; rw [b3]; exact cl_n (by omega)
  by_cases k0 : kp = 0
  · subst k0
    have e1 : pH q 1 = 0 := b2
    have e2 : y.2 0 = 0 := b3
    refine ⟨?_, ?_⟩
    · show (if pH q 1 = 0 then _ else _) = if y.2 0 = 0 then _ else _
      rw [if_pos e1, if_pos e2]
    · show Rel K (if pH q 1 = 0 then _ else _) (if y.2 0 = 0 then _ else _)
      rw [if_pos e1, if_pos e2]
      exact ⟨nx, 0, n, ⟨a1, a2, a3⟩, ⟨b1, b2, b3⟩, c, d, e, f1, f2, f3⟩
  · have e1 : ¬ pH q 1 = 0 := fun z => k0 ((nI_eq (b := 0) (by omega) (by decide)).mp (b2.symm.trans z))
    have e2 : ¬ y.2 0 = 0 := fun z => k0 ((nI_eq (b := 0) (by omega) (by decide)).mp (b3.symm.trans z))
    have m1 : nI kp - 1 = nI (kp - 1) := by rw [show (1 : Int32) = nI 1 from rfl, pk_sub (by omega)]
    have hc : cl (pH q 0) = nx := by rw [b1]; exact cl_n (by omega)
    refine ⟨?_, ?_⟩
    · show (if pH q 1 = 0 then _ else pH q 1 - 1) = if y.2 0 = 0 then _ else y.2 0 - 1
      rw [if_neg e1, if_neg e2, b2, b3]
    · show Rel K (if pH q 1 = 0 then _ else _) (if y.2 0 = 0 then _ else _)
      rw [if_neg e1, if_neg e2]
      refine ⟨(nx + 6) % 7, kp - 1, n, ⟨Nat.mod_lt _ (by decide), by omega, a3⟩, ⟨?_, ?_, ?_⟩, ?_, fun k hk => ?_, e, f1, f2, f3⟩
      · have := (stepBack_i (q := q) ⟨by rw [hc]; exact b1, by rw [hc]; exact a1⟩).1
        rw [hc] at this
        exact this
      · show pH q 1 - 1 = _
        rw [b2]; exact m1
      · show y.2 0 - 1 = _
        rw [b3]; exact m1
      · show WR K (wX5_copyFrom q.1 (pRing q ((cl (pH q 0) + 6) % 7))) ((mRow (mSc y 0 (y.2 0 - 1)) 0 (va_cpy (y.1 1) (y.1 0) (320 * (mKn y - 1)) 0 320)).1 0)
        rw [mRow_at, hc, hkn]
        refine WR_cp (WR_z (z := blk (y.1 1) (kp - 1)) ?_ (fun j hj => ?_))
        · have := d (kp - 1) (by omega)
          rw [show (nx + 7 - kp + (kp - 1)) % 7 = (nx + 6) % 7 by omega] at this
          exact this
        · unfold va_cpy blk
          rw [if_pos (by omega), Nat.sub_zero]
      · show WR K (pRing q _) (blk (y.1 1) k)
        rw [show ((nx + 6) % 7 + 7 - (kp - 1) + k) % 7 = (nx + 7 - kp + k) % 7 by omega]
        exact d k (by omega)
theorem slot_case (sl : Int32) : (isW sl 0 1 = true ∧ ∃ i, i < 2 ∧ sl = nI i) ∨ (isW sl 0 1 = false ∧ (sl < 0 ∨ ¬ sl < 2)) := by
  cases h : isW sl 0 1 with
  | true =>
    obtain ⟨j, h1, h2, h3⟩ := isW_of (lo := 0) (hi := 1) (by decide) (by decide) h
    exact Or.inl ⟨rfl, j, by omega, h3⟩
  | false =>
    refine Or.inr ⟨rfl, ?_⟩
    by_cases a : sl < 0
    · exact Or.inl a
    · refine Or.inr (fun b => ?_)
      obtain ⟨j, hj, rfl⟩ := nI_of a
      have := (nI_ltI (b := 2) hj (by decide)).mp b
      have t : isW (nI j) 0 1 = true := by
        simp only [isW, Bool.and_eq_true, decide_eq_true_eq]
        exact ⟨nI_pos hj, fun z => by have := (nI_ltI (a := 1) (by decide) hj).mp z; omega⟩
      rw [t] at h; cases h
theorem R_save {K : Nat} {q : PS} {y : MS} (h : Rel K q y) (sl : Int32) : svV q sl = mSaveV y sl ∧ Rel K (svW q sl) (mSave y sl) := by
  rcases slot_case sl with ⟨h1, i, hi, rfl⟩ | ⟨h1, h2⟩
  · have n1 : ¬ nI i < 0 := nI_pos (by omega)
    have n2 : nI i < 2 := (nI_ltI (b := 2) (by omega) (by decide)).mpr hi
    have hc : cl (nI i) = i := cl_n (by omega)
    obtain ⟨nx, kp, n, a, b, c, d, e, f⟩ := h
    refine ⟨?_, ?_⟩
    · unfold svV mSaveV
      rw [if_neg n1, if_pos n2, if_pos h1]
      obtain ⟨n3, np, nt, hs, -⟩ := c
      exact hs.2.1.1.trans hs.2.1.2.symm
    · unfold svW mSave
      rw [if_neg n1, if_pos n2, if_pos h1, hc]
      refine ⟨nx, kp, n, a, b, c, d, fun j hj => ?_, f⟩
      by_cases ji : j = i
      · subst ji
        refine Or.inr ⟨_, va_up_at _ _ _, ?_, ?_⟩
        · show (mRow (mRow y 2 (va_cpy (y.1 0) (y.1 2) 0 (320 * j) 320)) 3 (upd (y.1 3) j 1)).1 3 j = 1
          rw [mRow_at]; exact upd_s _ _ _
        · show WR K _ (blk ((mRow (mRow y 2 (va_cpy (y.1 0) (y.1 2) 0 (320 * j) 320)) 3 (upd (y.1 3) j 1)).1 2) j)
          rw [show (mRow (mRow y 2 (va_cpy (y.1 0) (y.1 2) 0 (320 * j) 320)) 3 (upd (y.1 3) j 1)).1 2 = va_cpy (y.1 0) (y.1 2) 0 (320 * j) 320 from rfl]
          refine WR_cp (WR_z c (fun t ht => ?_))
          unfold blk va_cpy
          rw [if_pos (by omega)]
          exact congrArg (y.1 0) (by omega)
      · have s1 : (va_up (pSlot q) i (some (wX5_copyFrom ((pSlot q i).getD wIni) q.1))) j = pSlot q j := va_up_of _ ji _
        have s2 : (mRow (mRow y 2 (va_cpy (y.1 0) (y.1 2) 0 (320 * i) 320)) 3 (upd (y.1 3) i 1)).1 3 j = y.1 3 j := by
          rw [mRow_at]; exact upd_o _ _ ji
        rcases e j hj with ⟨x1, x2⟩ | ⟨w, x1, x2, x3⟩
        · exact Or.inl ⟨s1.trans x1, s2.trans x2⟩
        · refine Or.inr ⟨w, s1.trans x1, s2.trans x2, ?_⟩
          show WR K w (blk ((mRow (mRow y 2 (va_cpy (y.1 0) (y.1 2) 0 (320 * i) 320)) 3 (upd (y.1 3) i 1)).1 2) j)
          rw [show (mRow (mRow y 2 (va_cpy (y.1 0) (y.1 2) 0 (320 * i) 320)) 3 (upd (y.1 3) i 1)).1 2 = va_cpy (y.1 0) (y.1 2) 0 (320 * i) 320 from rfl]
          refine WR_z x3 (fun t ht => ?_)
          unfold blk va_cpy
          rw [if_neg (by omega)]
  · have e1 : svV q sl = -2 := by
      unfold svV
      rcases h2 with h2 | h2
      · rw [if_pos h2]
      · rw [if_neg h2]
        split <;> rfl
    have e2 : svW q sl = q := by
      unfold svW
      rcases h2 with h2 | h2
      · rw [if_pos h2]
      · rw [if_neg h2]
        split <;> rfl
    unfold mSaveV mSave
    rw [e1, e2, h1, if_neg (by decide), if_neg (by decide)]
    exact ⟨rfl, h⟩
theorem R_restore {K : Nat} {q : PS} {y : MS} (h : Rel K q y) (sl : Int32) : rsV q sl = mRestoreV y sl ∧ Rel K (rsW q sl) (mRestore y sl) := by
  rcases slot_case sl with ⟨h1, i, hi, rfl⟩ | ⟨h1, h2⟩
  · have n1 : ¬ nI i < 0 := nI_pos (by omega)
    have n2 : nI i < 2 := (nI_ltI (b := 2) (by omega) (by decide)).mpr hi
    have hc : cl (nI i) = i := cl_n (by omega)
    obtain ⟨nx, kp, n, a, b, c, d, e, f⟩ := id h
    unfold rsV rsW mRestoreV mRestore
    rw [if_neg n1, if_pos n2, if_pos h1, if_neg n1, if_pos n2, if_pos h1, hc]
    rcases e i hi with ⟨x1, x2⟩ | ⟨w, x1, x2, x3⟩
    · rw [x1, x2, if_pos rfl, if_pos rfl]
      exact ⟨rfl, h⟩
    · rw [x1, x2, if_neg (by decide), if_neg (by decide)]
      have hz : WR K (wX5_copyFrom q.1 w) (va_cpy (y.1 2) (y.1 0) (320 * i) 0 320) := WR_cp (WR_z x3 (fun j hj => by
        unfold va_cpy blk
        rw [if_pos (by omega), Nat.sub_zero]))
      have hv : vX5_potsSoFar (wX5_copyFrom q.1 w) = va_cpy (y.1 2) (y.1 0) (320 * i) 0 320 7 := by
        obtain ⟨n3, np, nt, hs, -⟩ := hz
        exact hs.2.1.1.trans hs.2.1.2.symm
      have h0 : 0 ≤ vX5_potsSoFar (wX5_copyFrom q.1 w) := by
        obtain ⟨n3, np, nt, hs, -⟩ := hz
        show 0 ≤ (wX5_copyFrom q.1 w).2 2
        rw [hs.2.1.1]
        exact nI_pos' (by have := hs.1.1; omega)
      exact ⟨(vrec _ _).trans hv, rec_step h h0 hz (Nat.le_refl _)⟩
  · have e1 : rsV q sl = -2 := by
      unfold rsV
      rcases h2 with h2 | h2
      · rw [if_pos h2]
      · rw [if_neg h2]
        split <;> rfl
    have e2 : rsW q sl = q := by
      unfold rsW
      rcases h2 with h2 | h2
      · rw [if_pos h2]
      · rw [if_neg h2]
        split <;> rfl
    unfold mRestoreV mRestore
    rw [e1, e2, h1, if_neg (by decide), if_neg (by decide)]
    exact ⟨rfl, h⟩
