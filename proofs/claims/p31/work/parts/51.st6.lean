/-! nights -/
theorem WRbr_z {n : Nat} {z z2 : Nat → Int32} (h : WRbr n z) (hk : ∀ p, p < n → z2 (35 + 9 * p + 3) = z (35 + 9 * p + 3)) (h9 : z2 9 = z 9) : WRbr n z2 := WRbr_1 h (fun p hp => by rw [hk p hp]) h9
/-- what holds behind i pots of a night -/
def DI (K n np nt : Nat) (w : WS) (z : Nat → Int32) (i : Nat) (W : WS) (Z : Nat → Int32) : Prop :=
  W.2 = w.2 ∧ (∀ r, r ≠ 7 → W.1 r = w.1 r) ∧ (∀ j, j < 35 ∨ 215 ≤ j → Z j = z j) ∧ (∀ p k, k < 9 → k ≠ 6 → Z (35 + 9 * p + k) = z (35 + 9 * p + k)) ∧ ∀ p, p < n → PT K np (if p < i then nt + 1 else nt) W Z p
theorem zD1_e (Z : Nat → Int32) (i : Nat) : (zD1 (mz Z) i).1 0 = if Z (35 + 9 * i + 3) = 0 then (if Z (35 + 9 * i + 4) = 0 then upd Z (35 + 9 * i + 6) (Z (35 + 9 * i + 6) + (if 8 ≤ Z (35 + 9 * i + 5) then 1 else 2)) else Z) else Z := by
  unfold zD1
  show ((if Z (35 + 9 * i + 3) = 0 then _ else _ : MS).1 0) = _
  by_cases a : Z (35 + 9 * i + 3) = 0
  · rw [if_pos a, if_pos a]
    show ((if Z (35 + 9 * i + 4) = 0 then _ else _ : MS).1 0) = _
    by_cases b : Z (35 + 9 * i + 4) = 0
    · rw [if_pos b, if_pos b]; rfl
    · rw [if_neg b, if_neg b]; rfl
  · rw [if_neg a, if_neg a]; rfl
theorem pt_more {K n np nt : Nat} {w : WS} {z : Nat → Int32} {i : Nat} (h : ∀ p, p < n → PT K np (if p < i then nt + 1 else nt) w z p) : WRpt K n np (nt + 1) w z := fun p hp => PT_c (h p hp) (Nat.le_refl _) (Nat.le_refl _) (by split <;> omega) (fun _ _ _ => rfl) (fun _ _ => rfl)
theorem DI_ok {K n np nt : Nat} {w : WS} {z : Nat → Int32} (hn : n ≤ 20) {i : Nat} (hi : i < n) {W : WS} {Z : Nat → Int32} (h : DI K n np nt w z i W Z) : DI K n np nt w z (i + 1) (cDry1 W (nI i)) ((zD1 (mz Z) i).1 0) := by
  obtain ⟨c1, c2, c3, c4, c5⟩ := h
  have hpt := pt_more c5
  have stay : DI K n np nt w z (i + 1) W Z := ⟨c1, c2, c3, c4, fun p hp => PT_c (c5 p hp) (Nat.le_refl _) (Nat.le_refl _) (by split <;> split <;> omega) (fun _ _ _ => rfl) (fun _ _ => rfl)⟩
  unfold cDry1
  rw [zD1_e, pt_rack hpt hn hi, pt_isk hpt hn hi]
  by_cases a : Z (35 + 9 * i + 3) = 0
  · rw [if_pos a]
    by_cases b : Z (35 + 9 * i + 4) = 0
    · rw [if_pos b, if_pos ⟨decide_eq_true b, decide_eq_true a⟩, (pt_beside hpt hn hi b).1]
      have e8 : (if decide (¬ 8 ≤ Z (35 + 9 * i + 5)) = true then (2 : Int32) else 1) = if 8 ≤ Z (35 + 9 * i + 5) then 1 else 2 := by
        by_cases c : 8 ≤ Z (35 + 9 * i + 5)
        · rw [if_pos c, decide_eq_false (fun x => x c), if_neg (by decide)]
        · rw [if_neg c, decide_eq_true c, if_pos rfl]
      rw [e8, rPut_n (by omega) (by decide), pt_dried hpt hn hi]
      obtain ⟨u, hu, eu⟩ : ∃ u : Nat, u ≤ 2 ∧ (if 8 ≤ Z (35 + 9 * i + 5) then (1 : Int32) else 2) = nI u := by
        by_cases c : 8 ≤ Z (35 + 9 * i + 5)
        · rw [if_pos c]; exact ⟨1, by omega, rfl⟩
        · rw [if_neg c]; exact ⟨2, by omega, rfl⟩
      rw [eu]
      have zo : ∀ j, j ≠ 35 + 9 * i + 6 → upd Z (35 + 9 * i + 6) (Z (35 + 9 * i + 6) + nI u) j = Z j := fun j h1 => upd_o _ _ h1
      refine ⟨c1, fun r hr => ?_, fun j hj => (zo j (by omega)).trans (c3 j hj), fun p k hk hk6 => (zo _ (by omega)).trans (c4 p k hk hk6), fun p hp => ?_⟩
      · show va_up W.1 7 _ r = _
        rw [va_up_of _ hr]; exact c2 r hr
      · by_cases e : p = i
        · subst e
          obtain ⟨-, -, -, ⟨d1, q3, d2, d3⟩, ⟨e1, e2⟩, kd, k1, ⟨k2, k3⟩, k4, k5, k6⟩ := id (c5 p hp)
          rw [if_neg (by omega)] at d2
          rw [if_pos (by omega)]
          refine PT_u (c5 p hp) (Nat.le_refl _) rfl rfl rfl (fun k hk => zo _ (by omega)) ⟨?_, q3 + u, by omega, ?_⟩ ?_ ⟨kd, k1, ⟨k2, ?_⟩, ?_, ?_, ?_⟩
          · show upd (W.1 7) p _ p = _
            rw [upd_s, upd_s]
          · rw [upd_s, d3, nI_add]
          · rw [zo _ (by omega)]; exact ⟨e1, e2⟩
          · rw [zo _ (by omega)]; exact k3
          · rw [zo _ (by omega), zo _ (by omega)]; exact k4
          · rw [zo _ (by omega)]; exact k5
          · rw [zo _ (by omega)]; exact k6
        · refine PT_c (c5 p hp) (Nat.le_refl _) (Nat.le_refl _) (by split <;> split <;> omega) (fun r r1 r2 => ?_) (fun k hk => zo _ (by omega))
          show va_up W.1 7 (upd (W.1 7) i _) r p = _
          by_cases e7 : r = 7
          · subst e7; rw [va_up_at, upd_o _ _ e]
          · rw [va_up_of _ e7]
    · rw [if_neg b, if_neg (fun x => b (of_decide_eq_true x.1))]; exact stay
  · rw [if_neg a, if_neg (fun x => a (of_decide_eq_true x.2))]; exact stay
theorem zDN_s (z : Nat → Int32) (i : Nat) : (zDN (mz z) (i + 1)).1 0 = (zD1 (mz ((zDN (mz z) i).1 0)) i).1 0 := by
  show (zD1 (zDN (mz z) i) i).1 0 = _
  rw [zD1_Z, mRow_at]
theorem DI_all {K n np nt : Nat} {w : WS} {z : Nat → Int32} (hn : n ≤ 20) (hpt : WRpt K n np nt w z) : ∀ i, i ≤ n → DI K n np nt w z i (cDryN w i) ((zDN (mz z) i).1 0)
  | 0, _ => ⟨rfl, fun _ _ => rfl, fun _ _ => rfl, fun _ _ _ _ => rfl, fun p hp => by rw [if_neg (Nat.not_lt_zero _)]; exact hpt p hp⟩
  | i + 1, hi => by rw [zDN_s]; exact DI_ok hn (by omega) (DI_all hn hpt i (by omega))
theorem cross_n {w : WS} {nt : Nat} (h0 : w.2 0 = nI nt) (hnt : nt ≤ 999) : ∀ m, m ≤ 5 → (cCrossN w m).2 = w.2 ∧ (∀ r, r ≠ 1 → (cCrossN w m).1 r = w.1 r) ∧ ∀ c, (cCrossN w m).1 1 c = if 5 * (nt % 21) ≤ c ∧ c < 5 * (nt % 21) + m then 0 else w.1 1 c
  | 0, _ => ⟨rfl, fun _ _ => rfl, fun c => by rw [if_neg (by omega)]; rfl⟩
  | m + 1, hm => by
    obtain ⟨i1, i2, i3⟩ := cross_n h0 hnt m (by omega)
    have e : cCell (cCrossN w m) (nI m) 0 = nI (5 * ((nt + 0) % 21) + m) := cell_n (w := cCrossN w m) (wh := m) (ah := 0) (by rw [i1]; exact h0) hnt (by omega)
    have e2 : cCrossN w (m + 1) = wRow (cCrossN w m) 1 (upd ((cCrossN w m).1 1) (5 * (nt % 21) + m) 0) := by
      show wRow (cCrossN w m) 1 (rPut 105 ((cCrossN w m).1 1) (cCell (cCrossN w m) (nI m) 0) 0) = _
      rw [e, rPut_n (by omega) (by omega), Nat.add_zero]
    rw [e2]
    refine ⟨i1, fun r hr => (va_up_of _ hr _).trans (i2 r hr), fun c => ?_⟩
    show upd ((cCrossN w m).1 1) (5 * (nt % 21) + m) 0 c = _
    by_cases ec : c = 5 * (nt % 21) + m
    · subst ec; rw [upd_s, if_pos (by omega)]
    · rw [upd_o _ _ ec, i3]
      by_cases e3 : 5 * (nt % 21) ≤ c ∧ c < 5 * (nt % 21) + m
      · rw [if_pos e3, if_pos (by omega)]
      · rw [if_neg e3, if_neg (by omega)]
def zNt (Z : Nat → Int32) : Nat → Int32 := upd (va_cpy (fun _ => 0) (nb Z 105) 0 25 10) 0 (va_cpy (fun _ => 0) (nb Z 105) 0 25 10 0 + 1)
theorem zNight_e (z : Nat → Int32) : (zNight (mz z)).1 0 = zNt ((zDN (mz z) (mN (mz z))).1 0) := rfl
theorem zNt_0 (Z : Nat → Int32) : zNt Z 0 = Z 0 + 1 := by
  unfold zNt
  rw [upd_s]
  unfold va_cpy nb
  rw [if_neg (by omega), if_neg (by omega)]
theorem zNt_25 (Z : Nat → Int32) {j : Nat} (h1 : 25 ≤ j) (h2 : j < 35) : zNt Z j = 0 := by
  unfold zNt
  rw [upd_o _ _ (by omega)]
  unfold va_cpy
  rw [if_pos (by omega)]
theorem zNt_b (Z : Nat → Int32) {j : Nat} (h : j < 105) : zNt Z (215 + j) = if j % 21 = 20 then -6 else Z (215 + j + 1) := by
  unfold zNt
  rw [upd_o _ _ (by omega)]
  unfold va_cpy
  rw [if_neg (by omega)]
  unfold nb
  rw [if_pos (by omega), show 215 + j - 215 = j by omega]
theorem zNt_o (Z : Nat → Int32) {j : Nat} (h0 : j ≠ 0) (h : j < 25 ∨ (35 ≤ j ∧ j < 215)) : zNt Z j = Z j := by
  unfold zNt
  rw [upd_o _ _ h0]
  unfold va_cpy
  rw [if_neg (by omega)]
  unfold nb
  rw [if_neg (by omega)]
theorem night_n {K n np nt : Nat} {w : WS} {z : Nat → Int32} (h : WRn K n np nt w z) (hnt : nt < 999) : WRn K n np (nt + 1) (cPassOne (cDry w)) ((zNight (mz z)).1 0) := by
  obtain ⟨hs, h1, h2, h3, h4, h5, h6, h7, h8, h9⟩ := h
  obtain ⟨⟨b1, b2, b3⟩, ⟨n1, n2⟩, ⟨p1, p2⟩, ⟨t1, t2⟩, x1, f1⟩ := id hs
  rw [zNight_e, mzN n2 b1]
  unfold cDry
  rw [wN_n n1 b1]
  obtain ⟨c1, c2, c3, c4, c5⟩ := DI_all b1 h7 n (Nat.le_refl _)
  generalize (zDN (mz z) n).1 0 = Z at *
  generalize cDryN w n = W at *
  have hpt := pt_more c5
  obtain ⟨g1, g2, g3⟩ := cross_n (w := W) (nt := nt) (by rw [c1]; exact t1) b3 5 (Nat.le_refl _)
  obtain ⟨W2, eW⟩ : ∃ W2, W2 = cPassOne W := ⟨_, rfl⟩
  have r1 : ∀ r, W2.1 r = (cCrossN W 5).1 r := fun r => by rw [eW]; rfl
  have s0 : W2.2 0 = W.2 0 + 1 := by rw [eW]; show (cCrossN W 5).2 0 + 1 = _; rw [g1]
  have s1 : W2.2 1 = 0 := by rw [eW]; rfl
  have s2 : W2.2 2 = W.2 2 := by rw [eW]; show (cCrossN W 5).2 2 = _; rw [g1]
  have s3 : W2.2 3 = W.2 3 := by rw [eW]; show (cCrossN W 5).2 3 = _; rw [g1]
  have s4 : W2.2 4 = W.2 4 := by rw [eW]; show (cCrossN W 5).2 4 = _; rw [g1]
  have s5 : W2.2 5 = W.2 5 := by rw [eW]; show (cCrossN W 5).2 5 = _; rw [g1]
  rw [← eW]
  have zs : ∀ j, j ≠ 0 → (j < 25) → zNt Z j = z j := fun j j0 j1 => (zNt_o Z j0 (by omega)).trans (c3 j (by omega))
  have rw1 : ∀ r, r ≠ 1 → W2.1 r = W.1 r := fun r hr => (r1 r).trans (g2 r hr)
  refine ⟨⟨⟨b1, b2, by omega⟩, ⟨?_, (zs 7 (by omega) (by omega)).trans n2⟩, ⟨?_, (zs 6 (by omega) (by omega)).trans p2⟩, ⟨?_, ?_⟩, ?_, ?_⟩, WRset_c h1 (fun j _ => congrFun ((rw1 0 (by omega)).trans (c2 0 (by omega))) j) (fun i hi => zs _ (by omega) (by omega)), WRgl_c h2 (fun j _ => congrFun ((rw1 10 (by omega)).trans (c2 10 (by omega))) j) (fun i hi => zs _ (by omega) (by omega)), WRfee_c h3 (fun j _ => congrFun ((rw1 11 (by omega)).trans (c2 11 (by omega))) j) (fun i hi => zs _ (by omega) (by omega)) (zs _ (by omega) (by omega)), ?_, fun wh ah k1 k2 => ?_, fun ah wh wh2 k1 k2 k3 => ?_, fun p hp => PT_c (hpt p hp) (Nat.le_refl _) (Nat.le_refl _) (Nat.le_refl _) (fun r r1 r2 => congrFun (rw1 r (by omega)) p) (fun i hi => zNt_o Z (by omega) (by omega)), WRdi_z h8 (fun p hp => ⟨(zNt_o Z (by omega) (by omega)).trans (c4 p 4 (by omega) (by omega)), (zNt_o Z (by omega) (by omega)).trans (c4 p 5 (by omega) (by omega))⟩), WRbr_z h9 (fun p hp => (zNt_o Z (by omega) (by omega)).trans (c4 p 3 (by omega) (by omega))) (zs _ (by omega) (by omega))⟩
  · rw [s2, c1]; exact n1
  · rw [s3, c1]; exact p1
  · rw [s0, c1, t1, nI_1]
  · rw [zNt_0, c3 0 (by omega), t2, nI_1]
  · rw [s4, c1]; exact x1.trans (zs 1 (by omega) (by omega)).symm
  · rw [s5, c1]; exact f1.trans (zs 8 (by omega) (by omega)).symm
  · show W2.2 1 = _
    rw [s1]
    exact ((mk_0 (by decide)).mpr (fun i hi => by rw [zNt_25 Z (by omega) (by omega)]; rfl)).symm
  · rw [show 215 + 21 * wh + ah = 215 + (21 * wh + ah) by omega, zNt_b Z (by omega), r1, g3, c2 1 (by omega)]
    by_cases e : ah = 20
    · rw [if_pos (by omega), if_pos (by omega)]
      exact Or.inl ⟨rfl, rfl⟩
    · rw [if_neg (by omega), if_neg (by omega), c3 _ (by omega), show 215 + (21 * wh + ah) + 1 = 215 + 21 * wh + (ah + 1) by omega, show nt + 1 + ah = nt + (ah + 1) by omega]
      exact h5 wh (ah + 1) k1 (by omega)
  · rw [show 215 + 21 * wh + ah = 215 + (21 * wh + ah) by omega, show 215 + 21 * wh2 + ah = 215 + (21 * wh2 + ah) by omega, zNt_b Z (by omega), zNt_b Z (by omega)]
    by_cases e : ah = 20
    · rw [if_pos (by omega), if_pos (by omega)]
      exact fun _ x => absurd rfl x
    · rw [if_neg (by omega), if_neg (by omega), c3 _ (by omega), c3 _ (by omega), show 215 + (21 * wh + ah) + 1 = 215 + 21 * wh + (ah + 1) by omega, show 215 + (21 * wh2 + ah) + 1 = 215 + 21 * wh2 + (ah + 1) by omega]
      exact h6 (ah + 1) wh wh2 (by omega) k2 k3
theorem zPN_s (z : Nat → Int32) (i : Nat) : (zPassN (mz z) (i + 1)).1 0 = (zNight (mz ((zPassN (mz z) i).1 0))).1 0 := by
  show (zNight (zPassN (mz z) i)).1 0 = _
  rw [zNight_Z, mRow_at]
theorem pass_n {K n np nt : Nat} {w : WS} {z : Nat → Int32} (h : WRn K n np nt w z) : ∀ m, nt + m ≤ 999 → WRn K n np (nt + m) (cPassN w m) ((zPassN (mz z) m).1 0)
  | 0, _ => h
  | m + 1, hm => by
    rw [zPN_s]
    exact night_n (nt := nt + m) (pass_n h m (by omega)) (by omega)
theorem S_pass {K : Nat} {w : WS} {z : Nat → Int32} (h : WR K w z) (u : Int32) : Swk K w (cPassV w u) (cPassW w u) (vX7_noPass (mz z) u) ((zPassN (mz z) (cl u)).1 0 0) ((zPassN (mz z) (cl u)).1 0) := by
  obtain ⟨n, np, nt, hW⟩ := h
  obtain ⟨⟨b1, b2, b3⟩, ⟨n1, n2⟩, ⟨p1, p2⟩, ⟨t1, t2⟩, x1, f1⟩ := id hW.1
  show Swk K w _ _ (if isW u 1 20 = true then (if z 0 + u ≤ 999 then 0 else -5) else -2) _ _
  unfold cPassV cPassW
  refine Swk_ite Iff.rfl (fun a => ?_) (fun _ => Swk_no (by decide))
  obtain ⟨m, hm1, hm, rfl⟩ := isW_of (lo := 1) (hi := 20) (by decide) (by decide) a
  rw [t1, t2, show (nI m).toNatClampNeg = m from nI_clamp (by omega), cl_n (by omega)]
  refine Swk_ite Iff.rfl (fun c => ?_) (fun _ => Swk_no (by decide))
  rw [nI_add] at c
  have hle : nt + m ≤ 999 := (nI_leI (b := 999) (by omega) (by decide)).mp c
  have hp := pass_n hW m hle
  obtain ⟨-, -, -, ⟨e1, e2⟩, -⟩ := hp.1
  refine Or.inr ⟨rfl, e1.trans e2.symm, ?_, WR_K ⟨n, np, nt + m, hp⟩ (Nat.le_add_right _ _)⟩
  rw [e1]; exact nI_pos' (by omega)
