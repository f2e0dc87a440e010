/-! firing -/
theorem WRdi_z {n : Nat} {z z2 : Nat → Int32} (h : WRdi n z) (hz : ∀ p, p < n → z2 (35 + 9 * p + 4) = z (35 + 9 * p + 4) ∧ z2 (35 + 9 * p + 5) = z (35 + 9 * p + 5)) : WRdi n z2 := fun p q hp hq hne => by
  rw [(hz p hp).1, (hz p hp).2, (hz q hq).1, (hz q hq).2]
  exact h p q hp hq hne
theorem SP_kiln {sp wh pl : Int32} {kd : Nat} (h : SP sp wh pl kd) (h1 : wh = 1) : kd = 0 ∨ kd = 2 := by
  rcases h with ⟨a, -⟩ | ⟨-, -, a⟩ | ⟨a, -⟩
  · rw [h1] at a; exact absurd a (by decide)
  · exact a
  · rw [h1] at a; exact absurd a (by decide)
theorem pt_k2 {K n np nt : Nat} {w : WS} {z : Nat → Int32} (h : WRpt K n np nt w z) {p : Nat} (hp : p < n) (hk : z (35 + 9 * p + 4) = 1) : z (35 + 9 * p + 3) = 0 ∨ (z (35 + 9 * p + 3) = 2 ∧ w.1 8 p = z (35 + 9 * p + 7)) := by
  obtain ⟨-, -, -, -, -, kd, k1, ⟨k2, k3⟩, k4, k5, k6⟩ := h p hp
  rcases SP_kiln k4 hk with rfl | rfl
  · exact Or.inl k3
  · exact Or.inr ⟨k3, k5 (Or.inl rfl)⟩
theorem lim_n {w : WS} {z : Nat → Int32} (h : WRset w z) : rAt 4 (w.1 0) 2 = z 4 := (rAt_n (n := 4) (p := 2) (by decide) (by decide)).trans (h 2 (by decide)).1
theorem fired_n {K n np nt : Nat} {w : WS} {z : Nat → Int32} (h : WRpt K n np nt w z) (hn : n ≤ 20) (hset : WRset w z) (heat : Int32) {p : Nat} (hp : p < n) (hk : z (35 + 9 * p + 4) = 1) : cFired w (nI p) heat (rAt 4 (w.1 0) 2) = vX7_fired (mz z) (nI p) heat p := by
  show _ = (if heat + z (35 + 9 * p + 2) ≤ z 4 then (if z (35 + 9 * p + 3) = 0 then (if heat < 95 then 0 else 1) else (if 0 ≤ heat - (100 + 5 * z (35 + 9 * p + 7)) then (if 10 < heat - (100 + 5 * z (35 + 9 * p + 7)) then 1 else 3) else 2)) else 4)
  unfold cFired
  rw [lim_n hset, pt_fault h hn hp, pt_isk h hn hp]
  by_cases a : heat + z (35 + 9 * p + 2) ≤ z 4
  · rw [if_neg (not_not_intro a), if_pos a]
    rcases pt_k2 h hp hk with k | ⟨k, g⟩
    · rw [decide_eq_true k, if_pos rfl, if_pos k]
    · have k0 : ¬ z (35 + 9 * p + 3) = 0 := by rw [k]; decide
      rw [decide_eq_false k0, if_neg (by decide), if_neg k0]
      unfold cHeatOf
      rw [rAt_n (by omega) (by decide), g]
      by_cases b : 0 ≤ heat - (100 + 5 * z (35 + 9 * p + 7))
      · rw [if_neg (not_not_intro b), if_pos b]
      · rw [if_pos b, if_neg b]
  · rw [if_pos a, if_neg a]
theorem fired_cs (z : Nat → Int32) (heat : Int32) (p : Nat) : (z (35 + 9 * p + 3) = 0 → vX7_fired (mz z) (nI p) heat p = 0 ∨ vX7_fired (mz z) (nI p) heat p = 1 ∨ vX7_fired (mz z) (nI p) heat p = 4) ∧ (z (35 + 9 * p + 3) = 2 → vX7_fired (mz z) (nI p) heat p = 1 ∨ vX7_fired (mz z) (nI p) heat p = 2 ∨ vX7_fired (mz z) (nI p) heat p = 3 ∨ vX7_fired (mz z) (nI p) heat p = 4) := by
  have e : vX7_fired (mz z) (nI p) heat p = (if heat + z (35 + 9 * p + 2) ≤ z 4 then (if z (35 + 9 * p + 3) = 0 then (if heat < 95 then 0 else 1) else (if 0 ≤ heat - (100 + 5 * z (35 + 9 * p + 7)) then (if 10 < heat - (100 + 5 * z (35 + 9 * p + 7)) then 1 else 3) else 2)) else 4) := rfl
  rw [e]
  by_cases a : heat + z (35 + 9 * p + 2) ≤ z 4
  · rw [if_pos a]
    constructor
    · intro k
      rw [if_pos k]
      by_cases b : heat < 95
      · rw [if_pos b]; exact Or.inl rfl
      · rw [if_neg b]; exact Or.inr (Or.inl rfl)
    · intro k
      have k0 : ¬ z (35 + 9 * p + 3) = 0 := by rw [k]; decide
      rw [if_neg k0]
      by_cases b : 0 ≤ heat - (100 + 5 * z (35 + 9 * p + 7))
      · rw [if_pos b]
        by_cases c : 10 < heat - (100 + 5 * z (35 + 9 * p + 7))
        · rw [if_pos c]; exact Or.inl rfl
        · rw [if_neg c]; exact Or.inr (Or.inr (Or.inl rfl))
      · rw [if_neg b]; exact Or.inr (Or.inl rfl)
  · rw [if_neg a]
    exact ⟨fun _ => Or.inr (Or.inr rfl), fun _ => Or.inr (Or.inr (Or.inr rfl))⟩
theorem fired_z {z z2 : Nat → Int32} (heat : Int32) {p : Nat} (h4 : z2 4 = z 4) (hz : ∀ k, k < 9 → z2 (35 + 9 * p + k) = z (35 + 9 * p + k)) : vX7_fired (mz z2) (nI p) heat p = vX7_fired (mz z) (nI p) heat p := by
  show (if heat + z2 (35 + 9 * p + 2) ≤ z2 4 then (if z2 (35 + 9 * p + 3) = 0 then (if heat < 95 then 0 else 1) else (if 0 ≤ heat - (100 + 5 * z2 (35 + 9 * p + 7)) then (if 10 < heat - (100 + 5 * z2 (35 + 9 * p + 7)) then 1 else 3) else 2)) else 4) = (if heat + z (35 + 9 * p + 2) ≤ z 4 then (if z (35 + 9 * p + 3) = 0 then (if heat < 95 then 0 else 1) else (if 0 ≤ heat - (100 + 5 * z (35 + 9 * p + 7)) then (if 10 < heat - (100 + 5 * z (35 + 9 * p + 7)) then 1 else 3) else 2)) else 4)
  rw [h4, hz 2 (by omega), hz 3 (by omega), hz 7 (by omega)]
theorem firedTo_n {K n np nt : Nat} {w : WS} {z : Nat → Int32} (h : WRpt K n np nt w z) (hn : n ≤ 20) (hset : WRset w z) (h2 : w.2 2 = nI n) (kd heat : Int32) : cFiredTo w kd heat = mk (zFTP (mz z) heat kd) n := by
  unfold cFiredTo
  rw [wN_n h2 hn]
  refine mk_cong (fun p hp => ?_)
  show (cKiln w (nI p) && decide (cFired w (nI p) heat (rAt 4 (w.1 0) 2) = kd)) = (decide (z (35 + 9 * p + 4) = 1) && decide (vX7_fired (mz z) (nI p) heat p = kd))
  rw [pt_kiln h hn hp]
  by_cases e : z (35 + 9 * p + 4) = 1
  · rw [fired_n h hn hset heat hp e]
  · rw [decide_eq_false e, Bool.false_and, Bool.false_and]
def wFA (W : WS) (q F : Int32) : WS := wRow (wRow W 5 (rPut 20 (W.1 5) q F)) 9 (rPut 20 (W.1 9) q (rAt 20 (W.1 9) q + 1))
theorem firePot_e (W : WS) (q heat : Int32) : wX5_firePot W q heat = if cKind (wFA W q (cFired W q heat (rAt 4 (W.1 0) 2))) q 4 = true then wRow (wFA W q (cFired W q heat (rAt 4 (W.1 0) 2))) 6 (rPut 20 (W.1 6) q 25) else cPutRack (wFA W q (cFired W q heat (rAt 4 (W.1 0) 2))) q := rfl
def zFB (Z : Nat → Int32) (f : Int32) (i : Nat) : Nat → Int32 := upd (upd (upd Z (35 + 9 * i + 3) f) (35 + 9 * i + 8) (upd Z (35 + 9 * i + 3) f (35 + 9 * i + 8) + 1)) (35 + 9 * i + 7) (if f = 2 then upd (upd Z (35 + 9 * i + 3) f) (35 + 9 * i + 8) (upd Z (35 + 9 * i + 3) f (35 + 9 * i + 8) + 1) (35 + 9 * i + 7) else if f = 3 then upd (upd Z (35 + 9 * i + 3) f) (35 + 9 * i + 8) (upd Z (35 + 9 * i + 3) f (35 + 9 * i + 8) + 1) (35 + 9 * i + 7) else -6)
theorem zF1_e (Z : Nat → Int32) (heat : Int32) (i : Nat) : (zF1 (mz Z) heat i).1 0 = if Z (35 + 9 * i + 4) = 1 then (if vX7_fired (mz Z) (nI i) heat i = 4 then upd (zFB Z (vX7_fired (mz Z) (nI i) heat i) i) (35 + 9 * i + 4) 2 else upd (upd (zFB Z (vX7_fired (mz Z) (nI i) heat i) i) (35 + 9 * i + 4) 0) (35 + 9 * i + 5) (zPlace (mz (zFB Z (vX7_fired (mz Z) (nI i) heat i) i)))) else Z := by
  unfold zF1
  show ((if Z (35 + 9 * i + 4) = 1 then _ else _ : MS).1 0) = _
  by_cases a : Z (35 + 9 * i + 4) = 1
  · rw [if_pos a, if_pos a]
    by_cases b : vX7_fired (mz Z) (nI i) heat i = 4
    · rw [if_pos b, if_pos b]; rfl
    · rw [if_neg b, if_neg b]; rfl
  · rw [if_neg a, if_neg a]; rfl
/-- what holds behind i pots of a firing -/
def FI (K n np nt : Nat) (w : WS) (z : Nat → Int32) (heat : Int32) (i : Nat) (W : WS) (Z : Nat → Int32) : Prop :=
  W.2 = w.2 ∧ (∀ r, r ≠ 5 → r ≠ 6 → r ≠ 9 → W.1 r = w.1 r) ∧ (∀ j, j < 35 ∨ 215 ≤ j → Z j = z j) ∧ (∀ p, i ≤ p → p < n → ∀ k, k < 9 → Z (35 + 9 * p + k) = z (35 + 9 * p + k)) ∧ WRpt (K + i) n np nt W Z ∧ WRdi n Z ∧
  fb_ct (fun p => decide (Z (35 + 9 * p + 3) = 4)) n = fb_ct (fun p => decide (z (35 + 9 * p + 3) = 4)) n + fb_ct (zFTP (mz z) heat 4) i
theorem FI_ok {K n np nt : Nat} {w : WS} {z : Nat → Int32} (hn : n ≤ 20) (h2 : w.2 2 = nI n) (h7 : z 7 = nI n) (hset : WRset w z) (heat : Int32) {i : Nat} (hi : i < n) {W : WS} {Z : Nat → Int32} (h : FI K n np nt w z heat i W Z) : FI K n np nt w z heat (i + 1) (if cKiln W (nI i) = true then wX5_firePot W (nI i) heat else W) ((zF1 (mz Z) heat i).1 0) := by
  obtain ⟨c1, c2, c3, c4, c5, c6, c7⟩ := h
  have hset2 : WRset W Z := WRset_c hset (fun j _ => congrFun (c2 0 (by omega) (by omega) (by omega)) j) (fun j hj => c3 _ (by omega))
  have w2 : W.2 2 = nI n := by rw [c1]; exact h2
  have Z7 : Z 7 = nI n := by rw [c3 7 (by omega)]; exact h7
  have hfz : vX7_fired (mz Z) (nI i) heat i = vX7_fired (mz z) (nI i) heat i := fired_z heat (c3 4 (by omega)) (c4 i (Nat.le_refl _) hi)
  have hk4 := c4 i (Nat.le_refl _) hi 4 (by omega)
  have hk3 := c4 i (Nat.le_refl _) hi 3 (by omega)
  have hct : fb_ct (zFTP (mz z) heat 4) (i + 1) = fb_ct (zFTP (mz z) heat 4) i + if (decide (Z (35 + 9 * i + 4) = 1) && decide (vX7_fired (mz Z) (nI i) heat i = 4)) = true then 1 else 0 := by
    rw [fb_ct_succ, hfz, hk4]; rfl
  rw [pt_kiln c5 hn hi, zF1_e]
  by_cases hk : Z (35 + 9 * i + 4) = 1
  · rw [decide_eq_true hk, if_pos rfl, if_pos hk, firePot_e, fired_n c5 hn hset2 heat hi hk]
    have hcs := fired_cs Z heat i
    have hk2 := pt_k2 c5 hi hk
    generalize vX7_fired (mz Z) (nI i) heat i = f at *
    obtain ⟨fk, fk1, fk2, fk3, fk4⟩ : ∃ fk : Nat, fk ≤ 4 ∧ f = nI fk ∧ ((fk = 2 ∨ fk = 3) → W.1 8 i = Z (35 + 9 * i + 7)) ∧ (f = 4 ↔ fk = 4) := by
      rcases hk2 with k | ⟨k, g⟩
      · rcases hcs.1 k with e | e | e
        · exact ⟨0, by omega, e, fun x => by rcases x with x | x <;> omega, by rw [e]; decide⟩
        · exact ⟨1, by omega, e, fun x => by rcases x with x | x <;> omega, by rw [e]; decide⟩
        · exact ⟨4, by omega, e, fun x => by rcases x with x | x <;> omega, by rw [e]; decide⟩
      · rcases hcs.2 k with e | e | e | e
        · exact ⟨1, by omega, e, fun x => by rcases x with x | x <;> omega, by rw [e]; decide⟩
        · exact ⟨2, by omega, e, fun _ => g, by rw [e]; decide⟩
        · exact ⟨3, by omega, e, fun _ => g, by rw [e]; decide⟩
        · exact ⟨4, by omega, e, fun x => by rcases x with x | x <;> omega, by rw [e]; decide⟩
    have hA : wFA W (nI i) f = wRow (wRow W 5 (upd (W.1 5) i f)) 9 (upd (W.1 9) i (W.1 9 i + 1)) := by
      unfold wFA
      rw [rPut_n (by omega) (by decide), rPut_n (by omega) (by decide), rAt_n (by omega) (by decide)]
    have hcK : cKind (wFA W (nI i) f) (nI i) 4 = decide (f = 4) := by
      rw [hA]
      show decide (rAt 20 (upd (W.1 5) i f) (nI i) = 4) = _
      rw [rAt_n (by omega) (by decide), upd_s]
    have b7 : zFB Z f i (35 + 9 * i + 7) = if f = 2 then Z (35 + 9 * i + 7) else if f = 3 then Z (35 + 9 * i + 7) else -6 := by
      unfold zFB
      rw [upd_s, upd_o _ _ (by omega), upd_o _ _ (by omega)]
    have b3 : zFB Z f i (35 + 9 * i + 3) = f := by
      unfold zFB
      rw [upd_o _ _ (by omega), upd_o _ _ (by omega), upd_s]
    have b8 : zFB Z f i (35 + 9 * i + 8) = Z (35 + 9 * i + 8) + 1 := by
      unfold zFB
      rw [upd_o _ _ (by omega), upd_s, upd_o _ _ (by omega)]
    have bo : ∀ j, j ≠ 35 + 9 * i + 3 → j ≠ 35 + 9 * i + 7 → j ≠ 35 + 9 * i + 8 → zFB Z f i j = Z j := fun j j1 j2 j3 => by
      unfold zFB
      rw [upd_o _ _ j2, upd_o _ _ j3, upd_o _ _ j1]
    -- one kind of step for both ways
    have main : ∀ (W2 : WS) (Z2 : Nat → Int32) (sp : Int32), W2.2 = W.2 → (∀ r, r ≠ 5 → r ≠ 6 → r ≠ 9 → W2.1 r = W.1 r) → W2.1 5 = upd (W.1 5) i f → W2.1 6 = upd (W.1 6) i sp → W2.1 9 = upd (W.1 9) i (W.1 9 i + 1) → (∀ j, j ≠ 35 + 9 * i + 4 → j ≠ 35 + 9 * i + 5 → Z2 j = zFB Z f i j) → SP sp (Z2 (35 + 9 * i + 4)) (Z2 (35 + 9 * i + 5)) fk → (Z2 (35 + 9 * i + 4) = 0 → ∀ p, p < n → p ≠ i → Z (35 + 9 * p + 4) = 0 → Z (35 + 9 * p + 5) ≠ Z2 (35 + 9 * i + 5)) → FI K n np nt w z heat (i + 1) W2 Z2 := fun W2 Z2 sp d1 d2 d5 d6 d9 dz dsp ddi => by
      have zo : ∀ p k, p ≠ i → k < 9 → Z2 (35 + 9 * p + k) = Z (35 + 9 * p + k) := fun p k e1 e2 => by
        rw [dz _ (by omega) (by omega), bo _ (by omega) (by omega) (by omega)]
      refine ⟨d1.trans c1, fun r r1 r2 r3 => (d2 r r1 r2 r3).trans (c2 r r1 r2 r3), fun j hj => ?_, fun p h1 h2 k hk => ?_, ?_, WRdi_1 (i := i) c6 hn (fun p k h1 h2 h3 => zo p k h2 h3) ddi, ?_⟩
      · rw [dz _ (by omega) (by omega), bo _ (by omega) (by omega) (by omega)]; exact c3 j hj
      · rw [zo p k (by omega) hk]; exact c4 p (by omega) h2 k hk
      · refine WRpt_1 (i := i) c5 hn (by omega) (fun r p r1 r2 r3 r4 => ?_) (fun p k h1 h2 h3 => zo p k h2 h3) ?_
        · by_cases e5 : r = 5
          · subst e5; rw [d5, upd_o _ _ r4]
          · by_cases e6 : r = 6
            · subst e6; rw [d6, upd_o _ _ r4]
            · by_cases e9 : r = 9
              · subst e9; rw [d9, upd_o _ _ r4]
              · rw [d2 r e5 e6 e9]
        · obtain ⟨-, -, -, ⟨g1, q3, g2, g3⟩, ⟨e1, q4, e2, e3⟩, -⟩ := id (c5 i hi)
          refine PT_u (c5 i hi) (Nat.le_refl _) (by rw [d2 2 (by omega) (by omega) (by omega)]) (by rw [d2 3 (by omega) (by omega) (by omega)]) (by rw [d2 4 (by omega) (by omega) (by omega)]) (fun k hk => ?_) ?_ ?_ ⟨fk, fk1, ⟨?_, ?_⟩, ?_, fun x => ?_, fun x => ?_⟩
          · rw [dz _ (by omega) (by omega), bo _ (by omega) (by omega) (by omega)]
          · rw [d2 7 (by omega) (by omega) (by omega), dz _ (by omega) (by omega), bo _ (by omega) (by omega) (by omega)]
            exact ⟨g1, q3, g2, g3⟩
          · rw [d9, upd_s, dz _ (by omega) (by omega), b8, e1, e3, nI_1]
            exact ⟨rfl, _, by omega, rfl⟩
          · rw [d5, upd_s]; exact fk2
          · rw [dz _ (by omega) (by omega), b3]; exact fk2
          · rw [d6, upd_s]; exact dsp
          · rw [d2 8 (by omega) (by omega) (by omega), dz _ (by omega) (by omega), b7, fk3 x]
            rcases x with x | x
            · rw [if_pos (by rw [fk2, x]; rfl)]
            · rw [fk2, x, if_neg (by decide), if_pos (by decide)]
          · rw [dz _ (by omega) (by omega), b7, if_neg (show ¬ f = 2 from fun e => x (Or.inl ((nI_eq (b := 2) (by omega) (by decide)).mp (fk2.symm.trans e)))), if_neg (show ¬ f = 3 from fun e => x (Or.inr ((nI_eq (b := 3) (by omega) (by decide)).mp (fk2.symm.trans e))))]
      · rw [hct, ← Nat.add_assoc, ← c7, decide_eq_true hk, Bool.true_and]
        have hu := fb_ct_upd (fun p => decide (Z (35 + 9 * p + 3) = 4)) (decide (f = 4)) (i := i) (n := n) hi
        have h34 : decide (Z (35 + 9 * i + 3) = 4) = false := decide_eq_false (fun e => by
          rcases hk2 with k | ⟨k, -⟩ <;> rw [k] at e <;> exact absurd e (by decide))
        rw [h34, if_neg (by decide), Nat.add_zero] at hu
        rw [← hu]
        refine fb_ct_cong (fun p hp => ?_)
        by_cases e : p = i
        · subst e
          rw [if_pos rfl, dz _ (by omega) (by omega), b3]
        · rw [if_neg e, zo p 3 e (by omega)]
    by_cases hf : f = 4
    · rw [hcK, decide_eq_true hf, if_pos rfl, if_pos hf, hA, rPut_n (by omega) (by decide)]
      refine main _ _ 25 rfl (fun r r1 r2 r3 => ?_) rfl rfl rfl (fun j j1 j2 => upd_o _ _ j1) ?_ (fun e => ?_)
      · show va_up (va_up (va_up W.1 5 _) 9 _) 6 _ r = _
        rw [va_up_of _ r2, va_up_of _ r3, va_up_of _ r1]
      · exact Or.inr (Or.inr ⟨upd_s _ _ _, rfl, Or.inr (fk4.mp hf)⟩)
      · rw [upd_s] at e; exact absurd e (by decide)
    · rw [hcK, decide_eq_false hf, if_neg (by decide), if_neg hf]
      obtain ⟨j, hj, ej, dj⟩ := zPl_n Z7 hn
      have hpl : zPlace (mz (zFB Z f i)) = nI j := (zPlace_c Z7 ((bo 7 (by omega) (by omega) (by omega)).trans Z7) hn (fun p hp => ⟨bo _ (by omega) (by omega) (by omega), bo _ (by omega) (by omega) (by omega)⟩)).trans ej
      have hcp : cPlace (cTaken (wFA W (nI i) f)) = nI j := by
        have hX : cTaken (wFA W (nI i) f) = cTaken W := cTaken_c rfl rfl
        rw [hX]
        exact (place_n (y := mz Z) c5 hn w2 Z7).trans ej
      unfold cPutRack
      rw [hcp, hpl, hA]
      rw [rPut_n (p := i) (by omega) (by decide)]
      refine main _ _ (nI j) rfl (fun r r1 r2 r3 => ?_) rfl rfl rfl (fun q j1 j2 => ?_) ?_ (fun e p hp hpi hz => ?_)
      · show va_up (va_up (va_up W.1 5 _) 9 _) 6 _ r = _
        rw [va_up_of _ r2, va_up_of _ r3, va_up_of _ r1]
      · rw [upd_o _ _ j2, upd_o _ _ j1]
      · rw [upd_s, upd_o _ _ (by omega), upd_s]
        exact Or.inl ⟨rfl, j, by omega, rfl, rfl⟩
      · rw [upd_s]; exact dj p hp hz
  · rw [decide_eq_false hk, if_neg (by decide), if_neg hk]
    refine ⟨c1, c2, c3, fun p h1 h2 => c4 p (by omega) h2, fun p hp => PT_c (c5 p hp) (by omega) (Nat.le_refl _) (Nat.le_refl _) (fun _ _ _ => rfl) (fun _ _ => rfl), c6, ?_⟩
    rw [c7, hct, decide_eq_false hk, Bool.false_and, if_neg (by decide), Nat.add_zero]
theorem zFN_s (z : Nat → Int32) (heat : Int32) (i : Nat) : (zFN (mz z) heat (i + 1)).1 0 = (zF1 (mz ((zFN (mz z) heat i).1 0)) heat i).1 0 := by
  show (zF1 (zFN (mz z) heat i) heat i).1 0 = _
  rw [zF1_Z, mRow_at]
theorem FI_all {K n np nt : Nat} {w : WS} {z : Nat → Int32} (hn : n ≤ 20) (h2 : w.2 2 = nI n) (h7 : z 7 = nI n) (hset : WRset w z) (hpt : WRpt K n np nt w z) (hdi : WRdi n z) (heat : Int32) : ∀ i, i ≤ n → FI K n np nt w z heat i (cFireN w heat i) ((zFN (mz z) heat i).1 0) ∧ zFP (mz z) heat i = nI (fb_ct (zFTP (mz z) heat 4) i)
  | 0, _ => ⟨⟨rfl, fun _ _ _ _ => rfl, fun _ _ => rfl, fun _ _ _ _ _ => rfl, hpt, hdi, rfl⟩, rfl⟩
  | i + 1, hi => by
    obtain ⟨ih, ip⟩ := FI_all hn h2 h7 hset hpt hdi heat i (by omega)
    refine ⟨by rw [zFN_s]; exact FI_ok hn h2 h7 hset heat (by omega) ih, ?_⟩
    obtain ⟨c1, c2, c3, c4, c5, c6, c7⟩ := ih
    have e1 := c4 i (Nat.le_refl _) (by omega) 4 (by omega)
    have e2 : vX7_fired (zFN (mz z) heat i) (nI i) heat i = vX7_fired (mz z) (nI i) heat i := fired_z (z2 := (zFN (mz z) heat i).1 0) heat (c3 4 (by omega)) (c4 i (Nat.le_refl _) (by omega))
    show (if (zFN (mz z) heat i).1 0 (35 + 9 * i + 4) = 1 then (if vX7_fired (zFN (mz z) heat i) (nI i) heat i = 4 then zFP (mz z) heat i + 1 else zFP (mz z) heat i) else zFP (mz z) heat i) = _
    rw [e1, e2, ip, fb_ct_succ]
    show _ = nI (fb_ct (zFTP (mz z) heat 4) i + if (decide (z (35 + 9 * i + 4) = 1) && decide (vX7_fired (mz z) (nI i) heat i = 4)) = true then 1 else 0)
    by_cases a : z (35 + 9 * i + 4) = 1
    · rw [if_pos a, decide_eq_true a, Bool.true_and]
      by_cases b : vX7_fired (mz z) (nI i) heat i = 4
      · rw [if_pos b, decide_eq_true b, if_pos rfl, nI_1]
      · rw [if_neg b, decide_eq_false b, if_neg (by decide), Nat.add_zero]
    · rw [if_neg a, decide_eq_false a, Bool.false_and, if_neg (by decide), Nat.add_zero]
theorem S_fire {K : Nat} {w : WS} {z : Nat → Int32} (h : WR K w z) (heat : Int32) : Swk K w (cFireV w heat) (cFireW w heat) (vX7_noFire (mz z) heat) (zFP (mz z) heat (mN (mz z))) ((zDoFire (mz z) heat).1 0) := by
  obtain ⟨n, np, nt, hs, h1, h2, h3, h4, h5, h6, h7, h8, h9⟩ := h
  obtain ⟨⟨b1, b2, b3⟩, ⟨n1, n2⟩, ⟨p1, p2⟩, ⟨t1, t2⟩, x1, f1⟩ := id hs
  have hm : mN (mz z) = n := mzN n2 b1
  have e1 : (zDoFire (mz z) heat).1 0 = upd (upd ((zFN (mz z) heat (mN (mz z))).1 0) 8 ((zFN (mz z) heat (mN (mz z))).1 0 8 + 1)) 9 (upd ((zFN (mz z) heat (mN (mz z))).1 0) 8 ((zFN (mz z) heat (mN (mz z))).1 0 8 + 1) 9 + zFP (mz z) heat (mN (mz z))) := rfl
  rw [e1, hm]
  show Swk K w _ _ (if isW heat 80 140 = true then (if mk (zPA z 1) (mN (mz z)) = 0 then -5 else (if oneN (mk (zPA z 1) (mN (mz z))) 20 - oneN (mk (zFTP (mz z) heat 4) (mN (mz z))) 20 ≤ vX7_freePlaces (mz z) then 0 else -4)) else -2) _ _
  unfold cFireV cFireW cBreaking
  obtain ⟨fr, -⟩ := free_n (y := mz z) h7 h8 b1 n1 n2
  rw [hm, inK_n h7 b1 n1, firedTo_n h7 b1 h1 n1, fr, bit_mk _ (by omega), bit_mk _ (by omega), one_mk _ b1, one_mk _ b1, wN_n n1 b1]
  refine Swk_ite Iff.rfl (fun a => Swk_ite Iff.rfl (fun _ => Swk_no (by decide)) (fun _ => Swk_ite Iff.rfl (fun _ => ?_) (fun _ => Swk_no (by decide)))) (fun _ => Swk_no (by decide))
  obtain ⟨⟨c1, c2, c3, c4, c5, c6, c7⟩, ip⟩ := FI_all b1 n1 n2 h1 h7 h8 heat n (Nat.le_refl _)
  have hle := fb_ct_le (zFTP (mz z) heat 4) n
  rw [ip]
  generalize (zFN (mz z) heat n).1 0 = Z at *
  generalize cFireN w heat n = W at *
  have zo : ∀ j, j ≠ 8 → j ≠ 9 → upd (upd Z 8 (Z 8 + 1)) 9 (upd Z 8 (Z 8 + 1) 9 + nI (fb_ct (zFTP (mz z) heat 4) n)) j = Z j := fun j j1 j2 => by rw [upd_o _ _ j2, upd_o _ _ j1]
  have v8 : upd (upd Z 8 (Z 8 + 1)) 9 (upd Z 8 (Z 8 + 1) 9 + nI (fb_ct (zFTP (mz z) heat 4) n)) 8 = z 8 + 1 := by rw [upd_o _ _ (by omega), upd_s, c3 8 (by omega)]
  refine Or.inr ⟨rfl, rfl, nI_pos' (by omega), n, np, nt, ⟨⟨b1, b2, b3⟩, ⟨?_, ?_⟩, ⟨?_, ?_⟩, ⟨?_, ?_⟩, ?_, ?_⟩, WRset_c h1 (fun j _ => congrFun (c2 0 (by omega) (by omega) (by omega)) j) (fun i hi => (zo _ (by omega) (by omega)).trans (c3 _ (by omega))), WRgl_c h2 (fun j _ => congrFun (c2 10 (by omega) (by omega) (by omega)) j) (fun i hi => (zo _ (by omega) (by omega)).trans (c3 _ (by omega))), WRfee_c h3 (fun j _ => congrFun (c2 11 (by omega) (by omega) (by omega)) j) (fun i hi => (zo _ (by omega) (by omega)).trans (c3 _ (by omega))) ((zo _ (by omega) (by omega)).trans (c3 _ (by omega))), WRthr_c h4 (congrFun c1 1) (fun i hi => (zo _ (by omega) (by omega)).trans (c3 _ (by omega))), WRbk_c h5 (fun j _ => congrFun (c2 1 (by omega) (by omega) (by omega)) j) (fun i hi => (zo _ (by omega) (by omega)).trans (c3 _ (by omega))), WRun_c h6 (fun i hi => (zo _ (by omega) (by omega)).trans (c3 _ (by omega))), fun p hp => PT_c (c5 p hp) (by omega) (Nat.le_refl _) (Nat.le_refl _) (fun _ _ _ => rfl) (fun i hi => zo _ (by omega) (by omega)), WRdi_z c6 (fun p hp => ⟨zo _ (by omega) (by omega), zo _ (by omega) (by omega)⟩), ?_⟩
  · show W.2 2 = _; rw [c1]; exact n1
  · exact ((zo _ (by omega) (by omega)).trans (c3 _ (by omega))).trans n2
  · show W.2 3 = _; rw [c1]; exact p1
  · exact ((zo _ (by omega) (by omega)).trans (c3 _ (by omega))).trans p2
  · show W.2 0 = _; rw [c1]; exact t1
  · exact ((zo _ (by omega) (by omega)).trans (c3 _ (by omega))).trans t2
  · show W.2 4 = _; rw [c1]; exact x1.trans ((zo _ (by omega) (by omega)).trans (c3 _ (by omega))).symm
  · show W.2 5 + 1 = _; rw [c1, f1, v8]
  · have hL : (upd (upd Z 8 (Z 8 + 1)) 9 (upd Z 8 (Z 8 + 1) 9 + nI (fb_ct (zFTP (mz z) heat 4) n))) 9 = nI (fb_ct (fun p => decide (Z (35 + 9 * p + 3) = 4)) n) := by rw [upd_s, upd_o _ _ (by omega), c3 9 (by omega), h9, nI_add, ← c7]
    exact hL.trans (congrArg nI (fb_ct_cong (fun p hp => by rw [zo _ (by omega) (by omega)])))
