/-! a firing: pot by pot -/
section LFg
variable {J n np nt x : Nat} {zr : Nat → Int32} {z : ZS} {q : PS}
/-- the long of a pot behind the fire, still in the kiln -/
def wFi (y : Int64) (t gl : Int32) : Int64 := wt (wt (wt y 3 t) 6 gl) 7 (pt y 7 + 1)
def lGl (y : Int64) (t : Int32) : Int32 := if t = 2 then pt y 6 else if t = 3 then pt y 6 else 0
def lFi1 (g : Nat → Int32) (b : Nat → Int64) (n i : Nat) (heat : Int32) : Nat → Int64 :=
  if pt (b i) 4 = 24 then
    vp_updL (vp_updL b i (wFi (b i) (lThen g (b i) heat) (lGl (b i) (lThen g (b i) heat)))) i (wt (wFi (b i) (lThen g (b i) heat) (lGl (b i) (lThen g (b i) heat))) 4 (if lThen g (b i) heat = 4 then 25 else lFree (vp_updL b i (wFi (b i) (lThen g (b i) heat) (lGl (b i) (lThen g (b i) heat)))) n))
  else b
theorem wFi_pt {y : Int64} {t g c : Nat} (ht : t < 64) (hg : g < 64) (hc : c + 1 < 64) (e7 : pt y 7 = nI c) : pt (wFi y (nI t) (nI g)) 3 = nI t ∧ pt (wFi y (nI t) (nI g)) 6 = nI g ∧ pt (wFi y (nI t) (nI g)) 7 = nI (c + 1) ∧ ∀ i, i < 8 → i ≠ 3 → i ≠ 6 → i ≠ 7 → pt (wFi y (nI t) (nI g)) i = pt y i := by
  unfold wFi
  rw [e7, nI_1]
  refine ⟨?_, ?_, pt_wt _ (by decide) hc, fun i hi n3 n6 n7 => ?_⟩
  · rw [pt_wo _ (by decide) (by decide) (by decide) hc, pt_wo _ (by decide) (by decide) (by decide) hg, pt_wt _ (by decide) ht]
  · rw [pt_wo _ (by decide) (by decide) (by decide) hc, pt_wt _ (by decide) hg]
  · rw [pt_wo _ (by decide) hi n7 hc, pt_wo _ (by decide) hi n6 hg, pt_wo _ (by decide) hi n3 ht]
/-- what holds when the first i pots are through -/
def LFi (J n np nt x : Nat) (zr : Nat → Int32) (z : ZS) (heat : Int32) (i : Nat) (bi : Nat → Int64) : Prop :=
  LZn (J + 1) n np nt x ((zFN (mz zr) heat i).1 0) (z.1, bi, z.2.2) ∧ (∀ p, i ≤ p → p < n → bi p = z.2.1 p ∧ ∀ k, k < 9 → (zFN (mz zr) heat i).1 0 (35 + 9 * p + k) = zr (35 + 9 * p + k)) ∧ (zFN (mz zr) heat i).1 0 4 = zr 4
theorem LFi_0 (hz : LZn J n np nt x zr z) (heat : Int32) : LFi J n np nt x zr z heat 0 z.2.1 := by
  obtain ⟨⟨a1, a2, a3, a4⟩, b, hg, ht, hk, hp⟩ := hz
  exact ⟨⟨⟨a1, a2, by omega, a4⟩, b, hg, ht, hk, fun p h => LP_c (hp p h) (Nat.le_succ _) (fun _ _ => rfl)⟩, fun p _ _ => ⟨rfl, fun _ _ => rfl⟩, rfl⟩
theorem zFB_o (Z : Nat → Int32) (f : Int32) (i : Nat) {j : Nat} (h3 : j ≠ 35 + 9 * i + 3) (h8 : j ≠ 35 + 9 * i + 8) (h7 : j ≠ 35 + 9 * i + 7) : zFB Z f i j = Z j := by
  unfold zFB
  rw [upd_o _ _ h7, upd_o _ _ h8, upd_o _ _ h3]
theorem zFB_3 (Z : Nat → Int32) (f : Int32) (i : Nat) : zFB Z f i (35 + 9 * i + 3) = f := by
  unfold zFB
  rw [upd_o _ _ (by omega), upd_o _ _ (by omega), upd_s]
theorem zFB_8 (Z : Nat → Int32) (f : Int32) (i : Nat) : zFB Z f i (35 + 9 * i + 8) = Z (35 + 9 * i + 8) + 1 := by
  unfold zFB
  rw [upd_o _ _ (by omega), upd_s, upd_o _ _ (by omega)]
theorem zFB_7 (Z : Nat → Int32) (f : Int32) (i : Nat) : zFB Z f i (35 + 9 * i + 7) = if f = 2 then Z (35 + 9 * i + 7) else if f = 3 then Z (35 + 9 * i + 7) else -6 := by
  unfold zFB
  rw [upd_s, upd_o _ _ (by omega), upd_o _ _ (by omega)]
theorem LFi_s (h : IV J q zr z) (hz : LZn J n np nt x zr z) (hJ : J ≤ 60) {heat : Int32} {i : Nat} (hi : i < n) {bi : Nat → Int64} (hF : LFi J n np nt x zr z heat i bi) : LFi J n np nt x zr z heat (i + 1) (lFi1 z.1 bi n i heat) ∧ zFP (mz zr) heat (i + 1) = if pt (bi i) 4 = 24 then zFP (mz zr) heat i + (if lThen z.1 (bi i) heat = 4 then 1 else 0) else zFP (mz zr) heat i := by
  obtain ⟨hL, hR, h4⟩ := hF
  have hn := hz.1.1
  have hs := zFN_s zr heat i
  have ei := zF1_e ((zFN (mz zr) heat i).1 0) heat i
  have hfp : zFP (mz zr) heat (i + 1) = if (zFN (mz zr) heat i).1 0 (35 + 9 * i + 4) = 1 then (if vX7_fired (zFN (mz zr) heat i) (nI i) heat i = 4 then zFP (mz zr) heat i + 1 else zFP (mz zr) heat i) else zFP (mz zr) heat i := rfl
  have hfm : vX7_fired (zFN (mz zr) heat i) (nI i) heat i = vX7_fired (mz ((zFN (mz zr) heat i).1 0)) (nI i) heat i := rfl
  unfold LFi
  rw [hs, ei, hfp, hfm]
  generalize hZ : (zFN (mz zr) heat i).1 0 = Z at hL hR h4 ⊢
  obtain ⟨hbi, hkk⟩ := hR i (Nat.le_refl _) hi
  have hPi : ZP J (bi i) Z i := by rw [hbi]; exact LP_c (LZ_p hz hi) (Nat.le_refl _) hkk
  have hkl : pt (bi i) 4 = 24 ↔ Z (35 + 9 * i + 4) = 1 := PL_k hPi.2.2.2.2.1
  by_cases k : Z (35 + 9 * i + 4) = 1
  · have kz : zr (35 + 9 * i + 4) = 1 := (hkk 4 (by decide)).symm.trans k
    have k2 := IV_k2 h hz hi kz
    have ef : vX7_fired (mz Z) (nI i) heat i = vX7_fired (mz zr) (nI i) heat i := fired_z heat h4 hkk
    have et : lThen z.1 (bi i) heat = vX7_fired (mz zr) (nI i) heat i := by rw [hbi]; exact lThen_z hz hi k2 heat
    have cs := fired_cs zr heat i
    rw [if_pos k, if_pos k, if_pos (hkl.mpr k), ef]
    unfold lFi1
    rw [if_pos (hkl.mpr k), et]
    have ht : ∃ t : Nat, t ≤ 4 ∧ vX7_fired (mz zr) (nI i) heat i = nI t := by
      rcases k2 with e | e
      · rcases cs.1 e with c | c | c
        · exact ⟨0, by decide, c⟩
        · exact ⟨1, by decide, c⟩
        · exact ⟨4, by decide, c⟩
      · rcases cs.2 e with c | c | c | c
        · exact ⟨1, by decide, c⟩
        · exact ⟨2, by decide, c⟩
        · exact ⟨3, by decide, c⟩
        · exact ⟨4, by decide, c⟩
    have hgz : ∃ g : Nat, g < 64 ∧ lGl (bi i) (vX7_fired (mz zr) (nI i) heat i) = nI g ∧ GLz (vX7_fired (mz zr) (nI i) heat i) (if vX7_fired (mz zr) (nI i) heat i = 2 then Z (35 + 9 * i + 7) else if vX7_fired (mz zr) (nI i) heat i = 3 then Z (35 + 9 * i + 7) else -6) (nI g) := by
      have z3 : Z (35 + 9 * i + 3) = zr (35 + 9 * i + 3) := hkk 3 (by decide)
      have hno : ∀ f : Int32, f ≠ 2 → f ≠ 3 → ∃ g : Nat, g < 64 ∧ lGl (bi i) f = nI g ∧ GLz f (if f = 2 then Z (35 + 9 * i + 7) else if f = 3 then Z (35 + 9 * i + 7) else -6) (nI g) := fun f f2 f3 => by
        refine ⟨0, by decide, ?_, Or.inr ⟨fun e => e.elim f2 f3, ?_, rfl⟩⟩
        · unfold lGl; rw [if_neg f2, if_neg f3]; rfl
        · rw [if_neg f2, if_neg f3]
      rcases k2 with e | e
      · rcases cs.1 e with c | c | c <;> rw [c]
        · exact hno 0 (by decide) (by decide)
        · exact hno 1 (by decide) (by decide)
        · exact hno 4 (by decide) (by decide)
      · rcases hPi.2.2.2.2.2.2.1 with ⟨-, c7, hc7, e7, p7⟩ | ⟨e0, -⟩
        · rcases cs.2 e with c | c | c | c <;> rw [c]
          · exact hno 1 (by decide) (by decide)
          · exact ⟨c7 + 1, by omega, p7, Or.inl ⟨Or.inl rfl, c7, hc7, e7, rfl⟩⟩
          · exact ⟨c7 + 1, by omega, p7, Or.inl ⟨Or.inr rfl, c7, hc7, e7, rfl⟩⟩
          · exact hno 4 (by decide) (by decide)
        · exact absurd (Or.inl (z3.trans e)) e0
    obtain ⟨g, hg64, eg, hGL⟩ := hgz
    obtain ⟨t, htl, ett⟩ := ht
    rw [ett] at eg hGL ⊢
    rw [eg]
    obtain ⟨a0, a1, a2, a3, a4, a5, a6, a7, c, a8, a9⟩ := id hPi
    have e7 : pt (bi i) 7 = nI c := a7.trans a9
    obtain ⟨w3, w6, w7, wo⟩ := wFi_pt (y := bi i) (t := t) (g := g) (by omega) hg64 (by omega) e7
    -- behind the fire, still in the kiln
    have hA : ZP (J + 1) (wFi (bi i) (nI t) (nI g)) (zFB Z (nI t) i) i := by
      unfold ZP
      rw [w3, w6, w7, wo 0 (by decide) (by decide) (by decide) (by decide), wo 1 (by decide) (by decide) (by decide) (by decide), wo 2 (by decide) (by decide) (by decide) (by decide), wo 4 (by decide) (by decide) (by decide) (by decide), wo 5 (by decide) (by decide) (by decide) (by decide), zFB_3, zFB_7, zFB_8, zFB_o Z _ i (j := 35 + 9 * i) (by omega) (by omega) (by omega), zFB_o Z _ i (j := 35 + 9 * i + 1) (by omega) (by omega) (by omega), zFB_o Z _ i (j := 35 + 9 * i + 2) (by omega) (by omega) (by omega), zFB_o Z _ i (j := 35 + 9 * i + 4) (by omega) (by omega) (by omega), zFB_o Z _ i (j := 35 + 9 * i + 5) (by omega) (by omega) (by omega), zFB_o Z _ i (j := 35 + 9 * i + 6) (by omega) (by omega) (by omega)]
      exact ⟨a0, a1, a2, ⟨rfl, t, htl, rfl⟩, a4, a5, hGL, by rw [a9, nI_1], c + 1, by omega, by rw [a9, nI_1]⟩
    have LA : LZn (J + 1) n np nt x (zFB Z (nI t) i) (z.1, vp_updL bi i (wFi (bi i) (nI t) (nI g)), z.2.2) :=
      LZ_1 (z := (z.1, bi, z.2.2)) hL (Nat.le_refl _) (fun j hj => by rw [zFB_o Z _ i (by omega) (by omega) (by omega)]; exact hL.2.2.1 j hj) (LT_c hL.2.2.2.1 (fun j _ _ => zFB_o Z _ i (by omega) (by omega) (by omega))) ⟨zFB_o Z _ i (by omega) (by omega) (by omega), zFB_o Z _ i (by omega) (by omega) (by omega), zFB_o Z _ i (by omega) (by omega) (by omega), zFB_o Z _ i (by omega) (by omega) (by omega), zFB_o Z _ i (by omega) (by omega) (by omega)⟩ (fun j _ => zFB_o Z _ i (by omega) (by omega) (by omega)) (fun p2 _ hne j _ => zFB_o Z _ i (by omega) (by omega) (by omega)) (fun _ => hA)
    obtain ⟨pl, hpl, e1, e2⟩ := lFree_n LA
    have e1' : lFree (vp_updL bi i (wFi (bi i) (nI t) (nI g))) n = nI pl := e1
    -- the place
    have hB : ∀ (Z2 : Nat → Int32) (c4 : Nat), c4 < 64 → (∀ j, j ≠ 35 + 9 * i + 4 → j ≠ 35 + 9 * i + 5 → Z2 j = zFB Z (nI t) i j) → PL (nI c4) (Z2 (35 + 9 * i + 4)) (Z2 (35 + 9 * i + 5)) → LZn (J + 1) n np nt x Z2 (z.1, vp_updL (vp_updL bi i (wFi (bi i) (nI t) (nI g))) i (wt (wFi (bi i) (nI t) (nI g)) 4 (nI c4)), z.2.2) ∧ (∀ p, i + 1 ≤ p → p < n → (vp_updL (vp_updL bi i (wFi (bi i) (nI t) (nI g))) i (wt (wFi (bi i) (nI t) (nI g)) 4 (nI c4))) p = z.2.1 p ∧ ∀ k, k < 9 → Z2 (35 + 9 * p + k) = zr (35 + 9 * p + k)) ∧ Z2 4 = zr 4 := fun Z2 c4 hc4 ho hPL => by
      refine ⟨LZ_1 (z := (z.1, vp_updL bi i (wFi (bi i) (nI t) (nI g)), z.2.2)) LA (Nat.le_refl _) (fun j hj => by rw [ho j (by omega) (by omega)]; exact LA.2.2.1 j hj) (LT_c LA.2.2.2.1 (fun j _ _ => ho _ (by omega) (by omega))) ⟨ho _ (by omega) (by omega), ho _ (by omega) (by omega), ho _ (by omega) (by omega), ho _ (by omega) (by omega), ho _ (by omega) (by omega)⟩ (fun j _ => ho _ (by omega) (by omega)) (fun p2 _ hne j _ => ho _ (by omega) (by omega)) (fun _ => ZP_pl hA (Nat.le_refl _) hc4 (fun j _ _ _ => ho _ (by omega) (by omega)) hPL), fun p hp1 hp2 => ⟨?_, fun k hk => ?_⟩, ?_⟩
      · rw [pk_uLn (by omega), pk_uLn (by omega)]
        exact (hR p (by omega) hp2).1
      · rw [ho _ (by omega) (by omega), zFB_o Z _ i (by omega) (by omega) (by omega)]
        exact (hR p (by omega) hp2).2 k hk
      · rw [ho 4 (by omega) (by omega), zFB_o Z _ i (by omega) (by omega) (by omega)]
        exact h4
    by_cases c4 : nI t = 4
    · rw [if_pos c4, if_pos c4, if_pos c4, if_pos c4]
      exact ⟨hB _ 25 (by decide) (fun j j4 _ => upd_o _ _ j4) (Or.inr (Or.inr ⟨upd_s _ _ _, rfl⟩)), rfl⟩
    · rw [if_neg c4, if_neg c4, if_neg c4, if_neg c4, e1', e2]
      refine ⟨hB _ pl (by omega) (fun j j4 j5 => by rw [upd_o _ _ j5, upd_o _ _ j4]) (Or.inl ⟨by rw [upd_o _ _ (by omega), upd_s], pl, hpl, rfl, by rw [upd_s]⟩), (add0 _).symm⟩
  · rw [if_neg k, if_neg k, if_neg (fun e => k (hkl.mp e))]
    unfold lFi1
    rw [if_neg (fun e => k (hkl.mp e))]
    exact ⟨⟨hL, fun p h1 h2 => hR p (by omega) h2, h4⟩, rfl⟩
theorem cnt_d (P Q : Nat → Bool) (hd : ∀ i, ¬ (P i = true ∧ Q i = true)) : ∀ n, fb_ct P n + fb_ct Q n ≤ n
  | 0 => Nat.le_refl _
  | n + 1 => by
    have ih := cnt_d P Q hd n
    have h := hd n
    rw [fb_ct_succ, fb_ct_succ]
    cases a : P n <;> cases b : Q n
    · simp; omega
    · simp; omega
    · simp; omega
    · exact absurd ⟨a, b⟩ h
theorem fire_room (hz : LZn J n np nt x zr z) (heat : Int32) : oneN (zPotsAt (mz zr) 1) 20 - oneN (zFiredTo (mz zr) heat 4) 20 ≤ vX7_freePlaces (mz zr) := by
  have hn := hz.1.1
  have pa : ∀ w : Int32, zPotsAt (mz zr) w = mk (zPA zr w) n := fun w => by unfold zPotsAt; rw [LZ_N hz]; rfl
  have fb : zFiredTo (mz zr) heat 4 = mk (zFTP (mz zr) heat 4) n := by unfold zFiredTo; rw [LZ_N hz]
  unfold vX7_freePlaces
  rw [pa, pa, fb, one_mk _ hn, one_mk _ hn, one_mk _ hn]
  have hd := cnt_d (zPA zr 1) (zPA zr 0) (fun i e => by
    have e1 := of_decide_eq_true e.1
    have e0 := of_decide_eq_true e.2
    rw [e1] at e0; exact absurd e0 (by decide)) n
  have hb : fb_ct (zFTP (mz zr) heat 4) n ≤ fb_ct (zPA zr 1) n := fb_ct_sub (fun k _ hk => (Bool.and_eq_true _ _ |>.mp hk).1)
  rw [show (24 : Int32) = nI 24 from rfl, pk_sub hb, pk_sub (by omega)]
  exact (nI_leI (by omega) (by omega)).mpr (by omega)
theorem fire_do (h : IV J q zr z) (hz : LZn J n np nt x zr z) {ht : Nat} (h1 : 80 ≤ ht) (h2 : ht ≤ 140) (h0 : ¬ lKs z.2.1 n = 0) {bn : Nat → Int64} (hF : LFi J n np nt x zr z (nI ht) n bn) : vX6_fire q (nI ht) = zFP (mz zr) (nI ht) n ∧ ∃ zr2, IV (J + 1) (wX6_fire q (nI ht)) zr2 (ug (ug (z.1, bn, z.2.2) 8 (z.1 8 + 1)) 9 (z.1 9 + zFP (mz zr) (nI ht) n)) := by
  have hN := LZ_N hz
  have F := F_do (z' := ug (ug (z.1, bn, z.2.2) 8 (z.1 8 + 1)) 9 (z.1 9 + zFP (mz zr) (nI ht) n)) h (S_fire h.2.1 (nI ht)) ((if_pos (show isW (nI ht) 80 140 = true from isW_nI (lo := 80) (hi := 140) h1 h2 (by decide))).trans ((if_neg (fun e => h0 ((kl_e hz).mpr e))).trans (if_pos (fire_room hz _)))) (by
    show LZ (J + 1) (upd (upd ((zFN (mz zr) (nI ht) (mN (mz zr))).1 0) 8 ((zFN (mz zr) (nI ht) (mN (mz zr))).1 0 8 + 1)) 9 (upd ((zFN (mz zr) (nI ht) (mN (mz zr))).1 0) 8 ((zFN (mz zr) (nI ht) (mN (mz zr))).1 0 8 + 1) 9 + zFP (mz zr) (nI ht) (mN (mz zr)))) _
    rw [hN]
    obtain ⟨hL, -, -⟩ := hF
    generalize (zFN (mz zr) (nI ht) n).1 0 = Z at hL ⊢
    generalize zFP (mz zr) (nI ht) n = br
    have g8 : z.1 8 = Z 8 := hL.2.2.1 8 (by decide)
    have g9 : z.1 9 = Z 9 := hL.2.2.1 9 (by decide)
    obtain ⟨⟨a1, a2, a3, a4⟩, ⟨b1, b2, b3, b4, s, b5, b6⟩, hg, ht, hk, hp⟩ := hL
    have out : ∀ j, j ≠ 8 → j ≠ 9 → upd (upd Z 8 (Z 8 + 1)) 9 (upd Z 8 (Z 8 + 1) 9 + br) j = Z j := fun j a b => by rw [upd_o _ _ b, upd_o _ _ a]
    refine ⟨n, np, nt, x, ⟨a1, a2, by omega, a4⟩, ⟨(out _ (by decide) (by decide)).trans b1, (out _ (by decide) (by decide)).trans b2, (out _ (by decide) (by decide)).trans b3, (out _ (by decide) (by decide)).trans b4, s, b5, (out _ (by decide) (by decide)).trans b6⟩, fun j hj => ?_, LT_c ht (fun i _ _ => out _ (by omega) (by omega)), LK_c hk (Nat.le_refl _) (fun i _ => out _ (by omega) (by omega)), fun p hp2 => LP_c (hp p hp2) (Nat.le_refl _) (fun i _ => out _ (by omega) (by omega))⟩
    show upd (upd z.1 8 (z.1 8 + 1)) 9 (z.1 9 + br) j = _
    by_cases e9 : j = 9
    · subst e9; rw [upd_s, upd_s, upd_o _ _ (by decide), g9]
    · rw [upd_o _ _ e9, upd_o _ _ e9]
      by_cases e8 : j = 8
      · subst e8; rw [upd_s, upd_s, g8]
      · rw [upd_o _ _ e8, upd_o _ _ e8]; exact hg j hj)
  refine ⟨F.1.trans ?_, _, F.2⟩
  rw [hN]
end LFg
