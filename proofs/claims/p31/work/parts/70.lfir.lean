/-! firings: what the law counts is what the reference counts -/
section LFi
variable {J n np nt x : Nat} {zr : Nat → Int32} {z : ZS} {q : PS}
def fIx (g : Nat → Int32) (y : Int64) (heat : Int32) : Nat := if lThen g y heat = 4 then 0 else if lThen g y heat = pt y 3 then 3 else if lThen g y heat = 3 then 2 else 1
theorem fIx_e (g : Nat → Int32) (y : Int64) (heat : Int32) : (if lThen g y heat = 4 then 0 else if lThen g y heat = pt y 3 then 3 else if lThen g y heat = 3 then 2 else 1 : Int32) = nI (fIx g y heat) := by
  unfold fIx
  split
  · rfl
  · split
    · rfl
    · split <;> rfl
theorem fIx_lt (g : Nat → Int32) (y : Int64) (heat : Int32) : fIx g y heat < 4 := by
  unfold fIx
  split
  · decide
  · split
    · decide
    · split <;> decide
def fS (g : Nat → Int32) (b : Nat → Int64) (heat : Int32) (c : Nat) : Nat → Bool := fun p => decide (pt (b p) 4 = 24) && decide (fIx g (b p) heat = c)
def fOn (g : Nat → Int32) (b : Nat → Int64) (heat : Int32) : Nat → Bool := fun p => decide (pt (b p) 4 = 24) && decide (lThen g (b p) heat = pt (b p) 3 + 1)
def fBr (g : Nat → Int32) (b : Nat → Int64) (heat : Int32) : Nat → Bool := fun p => decide (pt (b p) 4 = 24) && decide (lThen g (b p) heat = 4)
theorem fS_s (g : Nat → Int32) (b : Nat → Int64) (heat : Int32) (p : Nat) (hk : pt (b p) 4 = 24) : upd (fun c => mk (fS g b heat c) p) (fIx g (b p) heat) (mk (fS g b heat (fIx g (b p) heat)) p ||| ((1 : Int32) <<< (nI p &&& 31))) = fun c => mk (fS g b heat c) (p + 1) := by
  funext c
  by_cases e : c = fIx g (b p) heat
  · subst e
    rw [upd_s]
    exact (mk_t (by simp [fS, hk])).symm
  · rw [upd_o _ _ e]
    exact (mk_f (by simp only [fS, hk]; simp [Ne.symm e])).symm
theorem fS_n (g : Nat → Int32) (b : Nat → Int64) (heat : Int32) (p : Nat) (hk : ¬ pt (b p) 4 = 24) : (fun c => mk (fS g b heat c) p) = fun c => mk (fS g b heat c) (p + 1) := by
  funext c
  exact (mk_f (by simp [fS, hk])).symm
theorem fk (hz : LZn J n np nt x zr z) {p : Nat} (hp : p < n) : (pt (z.2.1 p) 4 = 24) ↔ zr (35 + 9 * p + 4) = 1 := PL_k (LZ_pl hz hp)
theorem fT (h : IV J q zr z) (hz : LZn J n np nt x zr z) {p : Nat} (hp : p < n) (hk : zr (35 + 9 * p + 4) = 1) (heat : Int32) : lThen z.1 (z.2.1 p) heat = vX7_fired (mz zr) (nI p) heat p := lThen_z hz hp (IV_k2 h hz hp hk) heat
theorem fBr_z (h : IV J q zr z) (hz : LZn J n np nt x zr z) (heat : Int32) {p : Nat} (hp : p < n) : fBr z.1 z.2.1 heat p = zFTP (mz zr) heat 4 p := by
  show (decide (pt (z.2.1 p) 4 = 24) && decide (lThen z.1 (z.2.1 p) heat = 4)) = (decide (zr (35 + 9 * p + 4) = 1) && decide (vX7_fired (mz zr) (nI p) heat p = 4))
  by_cases k : zr (35 + 9 * p + 4) = 1
  · rw [fT h hz hp k, decide_eq_decide.mpr (fk hz hp)]
  · rw [decide_eq_false k, decide_eq_false (fun e => k ((fk hz hp).mp e)), Bool.false_and, Bool.false_and]
theorem fOn_z (h : IV J q zr z) (hz : LZn J n np nt x zr z) (heat : Int32) {p : Nat} (hp : p < n) : fOn z.1 z.2.1 heat p = zCoP (mz zr) heat p := by
  show (decide (pt (z.2.1 p) 4 = 24) && decide (lThen z.1 (z.2.1 p) heat = pt (z.2.1 p) 3 + 1)) = (decide (zr (35 + 9 * p + 4) = 1) && decide (vX7_fired (mz zr) (nI p) heat p = zr (35 + 9 * p + 3) + 1))
  rw [(LZ_p hz hp).2.2.2.1.1]
  by_cases k : zr (35 + 9 * p + 4) = 1
  · rw [fT h hz hp k, decide_eq_decide.mpr (fk hz hp)]
  · rw [decide_eq_false k, decide_eq_false (fun e => k ((fk hz hp).mp e)), Bool.false_and, Bool.false_and]
theorem fS_z (h : IV J q zr z) (hz : LZn J n np nt x zr z) (heat : Int32) {p : Nat} (hp : p < n) : (fS z.1 z.2.1 heat 0 p = zFTP (mz zr) heat 4 p) ∧ (fS z.1 z.2.1 heat 1 p = zFTP (mz zr) heat 1 p) ∧ (fS z.1 z.2.1 heat 2 p = zFTP (mz zr) heat 3 p) ∧ (fS z.1 z.2.1 heat 3 p = (((zPA zr 1 p && !zFTP (mz zr) heat 4 p) && !zFTP (mz zr) heat 1 p) && !zFTP (mz zr) heat 3 p)) := by
  have E : ∀ c, fS z.1 z.2.1 heat c p = (decide (zr (35 + 9 * p + 4) = 1) && decide (fIx z.1 (z.2.1 p) heat = c)) := fun c => by
    show (decide (pt (z.2.1 p) 4 = 24) && _) = _
    rw [decide_eq_decide.mpr (fk hz hp)]
  have F : ∀ v, zFTP (mz zr) heat v p = (decide (zr (35 + 9 * p + 4) = 1) && decide (vX7_fired (mz zr) (nI p) heat p = v)) := fun v => rfl
  have G : zPA zr 1 p = decide (zr (35 + 9 * p + 4) = 1) := rfl
  rw [E, E, E, E, F, F, F, G]
  by_cases k : zr (35 + 9 * p + 4) = 1
  · have t := fT h hz hp k heat
    have cs := fired_cs zr heat p
    have k3 := (LZ_p hz hp).2.2.2.1.1
    unfold fIx
    rw [t, k3, decide_eq_true k]
    rcases IV_k2 h hz hp k with e | e
    · rcases cs.1 e with c | c | c <;> rw [c, e] <;> decide
    · rcases cs.2 e with c | c | c | c <;> rw [c, e] <;> decide
  · rw [decide_eq_false k]
    simp
theorem isH {i : Nat} (hi : i < 61) : isW (nI (80 + i)) 80 140 = true := isW_nI (lo := 80) (hi := 140) (by omega) (by omega) (by decide)
theorem D_if (h : IV J q zr z) (hz : LZn J n np nt x zr z) {i : Nat} (hi : i < 61) {c : Nat} (hc : c < 4) : vX6_ifFired q (nI (80 + i)) (nI c) = mk (fS z.1 z.2.1 (nI (80 + i)) c) n := by
  have f0 : zFiredTo (mz zr) (nI (80 + i)) 4 = mk (zFTP (mz zr) (nI (80 + i)) 4) n := by unfold zFiredTo; rw [LZ_N hz]
  have f1 : zFiredTo (mz zr) (nI (80 + i)) 1 = mk (zFTP (mz zr) (nI (80 + i)) 1) n := by unfold zFiredTo; rw [LZ_N hz]
  have f3 : zFiredTo (mz zr) (nI (80 + i)) 3 = mk (zFTP (mz zr) (nI (80 + i)) 3) n := by unfold zFiredTo; rw [LZ_N hz]
  have pa : zPotsAt (mz zr) 1 = mk (zPA zr 1) n := by unfold zPotsAt; rw [LZ_N hz]; rfl
  have hn := hz.1.1
  refine (Q_ifFired h.2.1 (nI (80 + i)) (nI c)).trans ?_
  unfold vX7_ifFired
  rw [if_pos (isH hi), if_pos (show isW (nI c) 0 3 = true from isW_nI (lo := 0) (hi := 3) (by omega) (by omega) (by decide))]
  rcases (show c = 0 ∨ c = 1 ∨ c = 2 ∨ c = 3 by omega) with rfl | rfl | rfl | rfl
  · rw [if_pos (show nI 0 = 0 from rfl), f0]
    exact mk_cong (fun p hp => (fS_z h hz _ hp).1.symm)
  · rw [if_neg (show ¬ nI 1 = 0 by decide), if_pos (show nI 1 = 1 from rfl), f1]
    exact mk_cong (fun p hp => (fS_z h hz _ hp).2.1.symm)
  · rw [if_neg (show ¬ nI 2 = 0 by decide), if_neg (show ¬ nI 2 = 1 by decide), if_pos (show nI 2 = 2 from rfl), f3]
    exact mk_cong (fun p hp => (fS_z h hz _ hp).2.2.1.symm)
  · rw [if_neg (show ¬ nI 3 = 0 by decide), if_neg (show ¬ nI 3 = 1 by decide), if_neg (show ¬ nI 3 = 2 by decide), f0, f1, f3, pa, mk_sub (by omega), mk_sub (by omega), mk_sub (by omega)]
    exact mk_cong (fun p hp => (fS_z h hz _ hp).2.2.2.symm)
theorem lKs_n (hz : LZn J n np nt x zr z) : ∀ m, m ≤ n → ∃ c : Nat, c ≤ 3 * m ∧ lKs z.2.1 m = nI c ∧ (c = 0 ↔ ∀ p, p < m → ¬ zr (35 + 9 * p + 4) = 1)
  | 0, _ => ⟨0, by decide, rfl, fun _ p hp => absurd hp (Nat.not_lt_zero _), fun _ => rfl⟩
  | m + 1, hm => by
    obtain ⟨c, h1, h2, h3⟩ := lKs_n hz m (by omega)
    obtain ⟨k1, d, d1, d2, d3⟩ := (LZ_p hz (p := m) (by omega)).2.1
    have e := fk hz (p := m) (by omega)
    show ∃ c, c ≤ 3 * (m + 1) ∧ lKs z.2.1 m + (if pt (z.2.1 m) 4 = 24 then pt (z.2.1 m) 1 else 0) = nI c ∧ _
    by_cases k : zr (35 + 9 * m + 4) = 1
    · rw [if_pos (e.mpr k), h2, k1, d3, nI_add]
      exact ⟨c + d, by omega, rfl, fun z0 => by omega, fun hno => absurd k (hno m (by omega))⟩
    · rw [if_neg (fun q => k (e.mp q)), h2, add0]
      refine ⟨c, by omega, rfl, fun z0 p hp => ?_, fun hno => h3.mpr (fun p hp => hno p (by omega))⟩
      by_cases e2 : p = m
      · subst e2; exact k
      · exact h3.mp z0 p (by omega)
theorem kl_0 (hz : LZn J n np nt x zr z) : lKs z.2.1 n ≤ 0 ↔ zPotsAt (mz zr) 1 = 0 := by
  have hn := hz.1.1
  obtain ⟨c, h1, h2, h3⟩ := lKs_n hz n (Nat.le_refl _)
  have pa : zPotsAt (mz zr) 1 = mk (zPA zr 1) n := by unfold zPotsAt; rw [LZ_N hz]; rfl
  rw [h2, pa, mk_0 (by omega)]
  constructor
  · intro e
    have := (nI_leI (b := 0) (by omega) (by decide)).mp e
    intro p hp
    exact decide_eq_false (h3.mp (by omega) p hp)
  · intro e
    rw [h3.mpr (fun p hp => of_decide_eq_false (e p hp))]
    decide
theorem kl_e (hz : LZn J n np nt x zr z) : lKs z.2.1 n = 0 ↔ zPotsAt (mz zr) 1 = 0 := by
  rw [← kl_0 hz]
  obtain ⟨c, h1, h2, h3⟩ := lKs_n hz n (Nat.le_refl _)
  have hn := hz.1.1
  rw [h2]
  constructor
  · intro e; rw [e]; decide
  · intro e
    have := (nI_leI (b := 0) (by omega) (by decide)).mp e
    rw [show c = 0 by omega]; rfl
/-- the best heat of the first i -/
def lB (zr : Nat → Int32) (i : Nat) : Int32 × Int32 × Int32 := if zPotsAt (mz zr) 1 = 0 then (-6, 0, 0) else zBh (mz zr) i
theorem lB_0 (zr : Nat → Int32) : lB zr 0 = (-6, 0, 0) := by unfold lB; split <;> rfl
theorem lB_e (hz : LZn J n np nt x zr z) {i : Nat} (hc : lKs z.2.1 n ≤ 0) : lB zr (i + 1) = lB zr i := by
  unfold lB
  rw [if_pos ((kl_0 hz).mp hc), if_pos ((kl_0 hz).mp hc)]
theorem co_z (h : IV J q zr z) (hz : LZn J n np nt x zr z) (heat : Int32) : zComeOn (mz zr) heat = cnI (fOn z.1 z.2.1 heat) n := by
  unfold zComeOn
  rw [LZ_N hz, cnI_ct, cnI_ct]
  exact congrArg nI (fb_ct_cong (fun p hp => (fOn_z h hz heat hp).symm))
theorem br_z (h : IV J q zr z) (hz : LZn J n np nt x zr z) (heat : Int32) : oneN (zFiredTo (mz zr) heat 4) 20 = cnI (fBr z.1 z.2.1 heat) n := by
  unfold zFiredTo
  rw [LZ_N hz, one_mk _ hz.1.1, cnI_ct]
  exact congrArg nI (fb_ct_cong (fun p hp => (fBr_z h hz heat hp).symm))
theorem lB_s (h : IV J q zr z) (hz : LZn J n np nt x zr z) {i : Nat} (hc : ¬ lKs z.2.1 n ≤ 0) : lB zr (i + 1) = (if (lB zr i).1 < 0 then (nI (80 + i), cnI (fOn z.1 z.2.1 (nI (80 + i))) n, cnI (fBr z.1 z.2.1 (nI (80 + i))) n) else if (lB zr i).2.1 < cnI (fOn z.1 z.2.1 (nI (80 + i))) n then (nI (80 + i), cnI (fOn z.1 z.2.1 (nI (80 + i))) n, cnI (fBr z.1 z.2.1 (nI (80 + i))) n) else if cnI (fOn z.1 z.2.1 (nI (80 + i))) n = (lB zr i).2.1 then (if (lB zr i).2.2 ≤ cnI (fBr z.1 z.2.1 (nI (80 + i))) n then lB zr i else (nI (80 + i), cnI (fOn z.1 z.2.1 (nI (80 + i))) n, cnI (fBr z.1 z.2.1 (nI (80 + i))) n)) else lB zr i) := by
  unfold lB
  have c0 := fun e => hc ((kl_0 hz).mpr e)
  rw [if_neg c0, if_neg c0]
  rw [← co_z h hz, ← br_z h hz]
  rfl
theorem D_best (h : IV J q zr z) : vX6_bestHeat q = (lB zr 61).1 := by
  refine (Q_bestHeat h.2.1).trans ?_
  unfold zBestHeat lB
  split <;> rfl
end LFi
