/-! class: what the law does to its numbers is what the reference does to its row -/
section LCl
variable {J n np nt x : Nat} {zr : Nat → Int32} {z : ZS} {q : PS}
theorem cl_lit (m : Nat) (hm : m < 2 ^ 31) : cl (nI m) = m := cl_n hm
theorem N_book (h : IV J q zr z) (hz : LZn J n np nt x zr z) {pu : Nat} (hu : pu < 10) (hc : ¬ nI pu < z.1 6) : vX6_book q (nI pu) 0 21 = -1 ∧ IV J (wX6_book q (nI pu) 0 21) zr z := by
  have g6 : z.1 6 = nI np := (hz.2.2.1 6 (by decide)).trans hz.2.1.2.1
  have hnp := hz.1.2.1
  have hno : ¬ pu < np := fun e => hc (by rw [g6]; exact (nI_ltI (by omega) (by omega)).mpr e)
  exact F_no h (S_book h.2.1 (nI pu) 0 21) (if_neg (noPu hz.2.1.2.1 hnp (by omega) hno)) (by decide)
theorem N_throw (h : IV J q zr z) (hz : LZn J n np nt x zr z) {pu : Nat} (hu : pu < 10) (hc : ¬ nI pu < z.1 6) : vX6_throwPot q (nI pu) 0 = -1 ∧ IV J (wX6_throwPot q (nI pu) 0) zr z := by
  have g6 : z.1 6 = nI np := (hz.2.2.1 6 (by decide)).trans hz.2.1.2.1
  have hnp := hz.1.2.1
  have hno : ¬ pu < np := fun e => hc (by rw [g6]; exact (nI_ltI (by omega) (by omega)).mpr e)
  exact F_no h (S_throw h.2.1 (nI pu) 0) (if_neg (noPu hz.2.1.2.1 hnp (by omega) hno)) (by decide)
theorem N_give (h : IV J q zr z) (hz : LZn J n np nt x zr z) {pu : Nat} (hu : pu < 10) (hc : ¬ nI pu < z.1 6) : vX6_giveBack q (nI pu) 21 = -1 ∧ IV J (wX6_giveBack q (nI pu) 21) zr z := by
  have g6 : z.1 6 = nI np := (hz.2.2.1 6 (by decide)).trans hz.2.1.2.1
  have hnp := hz.1.2.1
  have hno : ¬ pu < np := fun e => hc (by rw [g6]; exact (nI_ltI (by omega) (by omega)).mpr e)
  exact F_no h (S_give h.2.1 (nI pu) 21) (if_neg (noPu hz.2.1.2.1 hnp (by omega) hno)) (by decide)
theorem noBook_e (hz : LZn J n np nt x zr z) {pu wh a : Nat} (hp : pu < np) (hw : wh < 5) (ha : a < 6) : vX7_noBook (mz zr) (nI pu) (nI wh) (nI a) = if 0 < z.2.2.1 (6 * wh + a) then -5 else if lWh z.2.2.1 (nI pu) a < 0 then 0 else -5 := by
  have hnp := hz.1.2.1
  unfold vX7_noBook
  rw [if_pos (isPu hz.2.1.2.1 hnp hp), if_pos (isWh hw), if_pos (isA (by omega)), cl_n (by omega), cl_n (by omega)]
  have e1 := BK_p (hz.2.2.2.2.1.1 wh a hw ha) hnp
  have e2 := lWh_neg hz hp ha
  show (if 0 ≤ zr (215 + 21 * wh + a) then -5 else if zWh zr (nI pu) a 5 < 0 then 0 else -5) = _
  simp only [e1, e2]
theorem L_book_no (h : IV J q zr z) (hz : LZn J n np nt x zr z) {pu wh a : Nat} (hp : pu < np) (hw : wh < 5) (ha : a < 6) (hc : 0 < z.2.2.1 (6 * wh + a) ∨ ¬ lWh z.2.2.1 (nI pu) a < 0) : vX6_book q (nI pu) (nI wh) (nI a) = -5 ∧ IV J (wX6_book q (nI pu) (nI wh) (nI a)) zr z := by
  refine F_no h (S_book h.2.1 (nI pu) (nI wh) (nI a)) ?_ (by decide)
  rw [noBook_e hz hp hw ha]
  rcases hc with hc | hc
  · rw [if_pos hc]
  · rw [if_neg hc]; split <;> rfl
theorem L_book_w5 (h : IV J q zr z) (hz : LZn J n np nt x zr z) {pu : Nat} (hp : pu < np) : vX6_book q (nI pu) 5 0 = -1 ∧ IV J (wX6_book q (nI pu) 5 0) zr z :=
  F_no h (S_book h.2.1 (nI pu) 5 0) ((if_pos (isPu hz.2.1.2.1 hz.1.2.1 hp)).trans (if_neg (show ¬ vX7_isWheel 5 = true by decide))) (by decide)
theorem L_book_a21 (h : IV J q zr z) (hz : LZn J n np nt x zr z) {pu wh : Nat} (hp : pu < np) (hw : wh < 5) : vX6_book q (nI pu) (nI wh) 21 = -2 ∧ IV J (wX6_book q (nI pu) (nI wh) 21) zr z :=
  F_no h (S_book h.2.1 (nI pu) (nI wh) 21) ((if_pos (isPu hz.2.1.2.1 hz.1.2.1 hp)).trans ((if_pos (isWh hw)).trans (if_neg (show ¬ vX7_isAhead 21 = true by decide)))) (by decide)
/-- a booking changes on both sides -/
theorem LK_u {k0 : Nat → Int32} (hk : LK np zr k0) {wh a : Nat} (hw : wh < 5) (ha : a < 6) {c b : Int32} (hb : BK np c b) : LK np (upd zr (215 + 21 * wh + a) b) (upd k0 (6 * wh + a) c) := by
  refine ⟨fun w2 a2 h1 h2 => ?_, fun w2 a2 h1 h2 h3 => ?_⟩
  · by_cases e : w2 = wh ∧ a2 = a
    · obtain ⟨rfl, rfl⟩ := e
      rw [upd_s, upd_s]; exact hb
    · rw [upd_o _ _ (by omega), upd_o _ _ (by omega)]; exact hk.1 w2 a2 h1 h2
  · rw [upd_o _ _ (by omega)]; exact hk.2 w2 a2 h1 h2 h3
theorem LZ_k (hz : LZn J n np nt x zr z) {wh a : Nat} (hw : wh < 5) (ha : a < 6) {c b : Int32} (hb : BK np c b) : LZ (J + 1) (upd zr (215 + 21 * wh + a) b) (uk z (6 * wh + a) c) := by
  obtain ⟨⟨a1, a2, a3, a4⟩, ⟨b1, b2, b3, b4, b5⟩, hg, ht, hk, hp⟩ := hz
  refine ⟨n, np, nt, x, ⟨a1, a2, by omega, a4⟩, ⟨?_, ?_, ?_, ?_, ?_⟩, fun j hj => ?_, LT_c ht (fun i _ _ => upd_o _ _ (by omega)), LK_u hk hw ha hb, fun p hp2 => LP_c (hp p hp2) (by omega) (fun i _ => upd_o _ _ (by omega))⟩
  · rw [upd_o _ _ (by omega)]; exact b1
  · rw [upd_o _ _ (by omega)]; exact b2
  · rw [upd_o _ _ (by omega)]; exact b3
  · rw [upd_o _ _ (by omega)]; exact b4
  · rw [upd_o _ _ (by omega)]; exact b5
  · rw [upd_o _ _ (by omega)]; exact hg j hj
theorem L_book (h : IV J q zr z) (hz : LZn J n np nt x zr z) {pu wh a : Nat} (hp : pu < np) (hw : wh < 5) (ha : a < 6) (h1 : ¬ 0 < z.2.2.1 (6 * wh + a)) (h2 : lWh z.2.2.1 (nI pu) a < 0) : vX6_book q (nI pu) (nI wh) (nI a) = z.1 0 + nI a ∧ ∃ zr2, IV (J + 1) (wX6_book q (nI pu) (nI wh) (nI a)) zr2 (uk z (6 * wh + a) (nI pu + 1)) := by
  have hnp := hz.1.2.1
  have F := F_do (z' := uk z (6 * wh + a) (nI pu + 1)) h (S_book h.2.1 (nI pu) (nI wh) (nI a)) (by rw [noBook_e hz hp hw ha, if_neg h1, if_pos h2]) (by
    show LZ (J + 1) (upd zr (215 + (21 * cl (nI wh)) + cl (nI a)) (nI pu)) _
    rw [cl_n (by omega), cl_n (by omega)]
    exact LZ_k hz hw ha (Or.inr ⟨pu, hp, rfl, nI_1 pu⟩))
  refine ⟨F.1.trans ?_, _, F.2⟩
  show upd zr (215 + (21 * cl (nI wh)) + cl (nI a)) (nI pu) 0 + nI a = _
  rw [upd_o _ _ (by omega), hz.2.2.1 0 (by decide)]
theorem noGive_e (h : IV J q zr z) (hz : LZn J n np nt x zr z) {pu a : Nat} (hp : pu < np) (ha : a < 6) : zNoGive zr (nI pu) (nI a) = if lWh z.2.2.1 (nI pu) a < 0 then -5 else if nI a = 0 then (if z.2.2.2 (2 * pu) = 1 then -5 else 0) else 0 := by
  have hnp := hz.1.2.1
  unfold zNoGive
  rw [if_pos (isPu hz.2.1.2.1 hnp hp), if_pos (show isW (nI a) 0 20 = true from isA (by omega)), cl_n (by omega), cl_n (by omega)]
  have e2 := lWh_neg hz hp ha
  simp only [e2, (hz.2.2.2.1 pu (by omega)).1]
theorem L_give_n1 (h : IV J q zr z) (hz : LZn J n np nt x zr z) {pu a : Nat} (hp : pu < np) (ha : a < 6) (hc : lWh z.2.2.1 (nI pu) a < 0) : vX6_giveBack q (nI pu) (nI a) = -5 ∧ IV J (wX6_giveBack q (nI pu) (nI a)) zr z :=
  F_no h (S_give h.2.1 (nI pu) (nI a)) (by rw [noGive_e h hz hp ha, if_pos hc]) (by decide)
theorem L_give_n2 (h : IV J q zr z) (hz : LZn J n np nt x zr z) {pu a : Nat} (hp : pu < np) (ha : a < 6) (h0 : nI a = 0) (h1 : z.2.2.2 (2 * pu) = 1) : vX6_giveBack q (nI pu) (nI a) = -5 ∧ IV J (wX6_giveBack q (nI pu) (nI a)) zr z :=
  F_no h (S_give h.2.1 (nI pu) (nI a)) (by rw [noGive_e h hz hp ha, if_pos h0, if_pos h1]; split <;> rfl) (by decide)
theorem L_give (h : IV J q zr z) (hz : LZn J n np nt x zr z) {pu a w : Nat} (hp : pu < np) (ha : a < 6) (hw : w < 5) (e1 : lWh z.2.2.1 (nI pu) a = nI w) (e2 : zWh zr (nI pu) a 5 = nI w) (h1 : ¬ (nI a = 0 ∧ z.2.2.2 (2 * pu) = 1)) : vX6_giveBack q (nI pu) (nI a) = nI w ∧ ∃ zr2, IV (J + 1) (wX6_giveBack q (nI pu) (nI a)) zr2 (uk z (6 * w + a) 0) := by
  have F := F_do (z' := uk z (6 * w + a) 0) h (S_give h.2.1 (nI pu) (nI a)) (by
    rw [noGive_e h hz hp ha, e1, if_neg (nI_pos (by omega))]
    by_cases c : nI a = 0
    · rw [if_pos c, if_neg (fun e => h1 ⟨c, e⟩)]
    · rw [if_neg c]) (by
    rw [cl_n (show a < 2 ^ 31 by omega), e2, cl_n (show w < 2 ^ 31 by omega)]
    exact LZ_k hz hw ha (Or.inl ⟨rfl, rfl⟩))
  refine ⟨F.1.trans ?_, _, F.2⟩
  rw [cl_n (show a < 2 ^ 31 by omega), e2]
/-! a pot is thrown -/
theorem noThrow_e (hz : LZn J n np nt x zr z) {pu sz : Nat} (hp : pu < np) (hs1 : 1 ≤ sz) (hs3 : sz ≤ 3) : vX7_noThrow (mz zr) (nI pu) (nI sz) = if lWh z.2.2.1 (nI pu) 0 < 0 then -5 else if z.2.2.2 (2 * pu) = 1 then -5 else if z.1 7 = 20 then -4 else if vX7_freePlaces (mz zr) = 0 then -4 else 0 := by
  have hnp := hz.1.2.1
  unfold vX7_noThrow
  rw [if_pos (isPu hz.2.1.2.1 hnp hp), if_pos (show isW (nI sz) 1 3 = true from isW_nI (lo := 1) (hi := 3) hs1 hs3 (by decide)), cl_n (by omega)]
  have e2 := lWh_neg hz hp (a := 0) (by decide)
  show (if zWh zr (nI pu) 0 5 < 0 then -5 else if zr (25 + pu) = 1 then -5 else if zr 7 = 20 then -4 else _) = _
  simp only [e2, (hz.2.2.2.1 pu (by omega)).1, hz.2.2.1 7 (by decide)]
theorem L_throw_n1 (h : IV J q zr z) (hz : LZn J n np nt x zr z) {pu sz : Nat} (hp : pu < np) (hs1 : 1 ≤ sz) (hs3 : sz ≤ 3) (hc : lWh z.2.2.1 (nI pu) 0 < 0 ∨ z.2.2.2 (2 * pu) = 1) : vX6_throwPot q (nI pu) (nI sz) = -5 ∧ IV J (wX6_throwPot q (nI pu) (nI sz)) zr z := by
  refine F_no h (S_throw h.2.1 (nI pu) (nI sz)) ?_ (by decide)
  rw [noThrow_e hz hp hs1 hs3]
  rcases hc with hc | hc
  · rw [if_pos hc]
  · rw [if_pos hc]; split <;> rfl
theorem L_throw_4 (h : IV J q zr z) (hz : LZn J n np nt x zr z) {pu : Nat} (hp : pu < np) : vX6_throwPot q (nI pu) 4 = -2 ∧ IV J (wX6_throwPot q (nI pu) 4) zr z :=
  F_no h (S_throw h.2.1 (nI pu) 4) ((if_pos (isPu hz.2.1.2.1 hz.1.2.1 hp)).trans (if_neg (show ¬ isW 4 1 3 = true by decide))) (by decide)
theorem L_throw_20 (h : IV J q zr z) (hz : LZn J n np nt x zr z) {pu sz : Nat} (hp : pu < np) (hs1 : 1 ≤ sz) (hs3 : sz ≤ 3) (h1 : ¬ lWh z.2.2.1 (nI pu) 0 < 0) (h2 : ¬ z.2.2.2 (2 * pu) = 1) (h3 : z.1 7 = 20) : vX6_throwPot q (nI pu) (nI sz) = -4 ∧ IV J (wX6_throwPot q (nI pu) (nI sz)) zr z :=
  F_no h (S_throw h.2.1 (nI pu) (nI sz)) (by rw [noThrow_e hz hp hs1 hs3, if_neg h1, if_neg h2, if_pos h3]) (by decide)
theorem IV_free (h : IV J q zr z) : ∃ c, 4 ≤ c ∧ c ≤ 24 ∧ vX7_freePlaces (mz zr) = nI c := by
  obtain ⟨n2, np2, nt2, hs, -, -, -, -, -, -, h7, h8, -⟩ := h.2.1
  exact (free_n (y := mz zr) h7 h8 hs.1.1 hs.2.1.1 hs.2.1.2).2
theorem lFree_n (hz : LZn J n np nt x zr z) : ∃ pl : Nat, pl < 24 ∧ lFree z.2.1 n = nI pl ∧ zPlace (mz zr) = nI pl := by
  obtain ⟨j, hj, e, -⟩ := zPl_n hz.2.1.1 hz.1.1
  exact ⟨j, by omega, (lFree_z hz).trans e, e⟩
def drN (x : Nat) : Nat := (75 * x + 74) % 65537
def flN (x : Nat) : Nat := x / 8 % 10
theorem dr_e {x : Nat} (hx : x < 65537) : (nI x * 75 + 74) - (nI x * 75 + 74) / 65537 * 65537 = nI (drN x) := by
  rw [show (75 : Int32) = nI 75 from rfl, show (74 : Int32) = nI 74 from rfl, show (65537 : Int32) = nI 65537 from rfl, pk_mul, nI_add, pk_rem (by omega) (by decide) (by decide)]
  exact congrArg nI (by unfold drN; omega)
theorem dX_e {x : Nat} (hx : x < 65537) : dX (nI x) = nI (drN x) := by
  unfold dX
  rw [show (75 : Int32) = nI 75 from rfl, show (74 : Int32) = nI 74 from rfl, show (65537 : Int32) = nI 65537 from rfl, pk_mul, nI_add, pk_rem (by omega) (by decide) (by decide)]
  rfl
theorem dr_lt (x : Nat) : drN x < 65537 := Nat.mod_lt _ (by decide)
theorem fl_lt (x : Nat) : flN x < 10 := Nat.mod_lt _ (by decide)
theorem fl_e {x : Nat} (hx : x < 65537) : (nI x >>> ((3 : Int32) &&& 31)) - (nI x >>> ((3 : Int32) &&& 31)) / 10 * 10 = nI (flN x) := by
  rw [pk_shrN (by omega) ((3 : Int32) &&& 31) 3 (by decide), show (10 : Int32) = nI 10 from rfl, pk_rem (by omega) (by decide) (by decide)]
  exact congrArg nI (by unfold flN; omega)
theorem dF_e {x : Nat} (hx : x < 65537) : dF (nI x) = nI (flN x) := by
  unfold dF
  rw [show (8 : Int32) = nI 8 from rfl, show (10 : Int32) = nI 10 from rfl, pk_div (by omega) (by decide) (by decide), pk_rem (by omega) (by decide) (by decide)]
  rfl
/-- the long of a new pot -/
def wNew (pu sz fl pl : Nat) : Int64 := wt (wt (wt (wt 0 0 (nI pu)) 1 (nI sz)) 2 (nI fl)) 4 (nI pl)
theorem pt_new {pu sz fl pl : Nat} (h1 : pu < 64) (h2 : sz < 64) (h3 : fl < 64) (h4 : pl < 64) : pt (wNew pu sz fl pl) 0 = nI pu ∧ pt (wNew pu sz fl pl) 1 = nI sz ∧ pt (wNew pu sz fl pl) 2 = nI fl ∧ pt (wNew pu sz fl pl) 3 = 0 ∧ pt (wNew pu sz fl pl) 4 = nI pl ∧ pt (wNew pu sz fl pl) 5 = 0 ∧ pt (wNew pu sz fl pl) 6 = 0 ∧ pt (wNew pu sz fl pl) 7 = 0 := by
  unfold wNew
  refine ⟨?_, ?_, ?_, ?_, ?_, ?_, ?_, ?_⟩
  · rw [pt_wo _ (by decide) (by decide) (by decide) h4, pt_wo _ (by decide) (by decide) (by decide) h3, pt_wo _ (by decide) (by decide) (by decide) h2, pt_wt _ (by decide) h1]
  · rw [pt_wo _ (by decide) (by decide) (by decide) h4, pt_wo _ (by decide) (by decide) (by decide) h3, pt_wt _ (by decide) h2]
  · rw [pt_wo _ (by decide) (by decide) (by decide) h4, pt_wt _ (by decide) h3]
  · rw [pt_wo _ (by decide) (by decide) (by decide) h4, pt_wo _ (by decide) (by decide) (by decide) h3, pt_wo _ (by decide) (by decide) (by decide) h2, pt_wo _ (by decide) (by decide) (by decide) h1, pt_0 (by decide)]
  · rw [pt_wt _ (by decide) h4]
  · rw [pt_wo _ (by decide) (by decide) (by decide) h4, pt_wo _ (by decide) (by decide) (by decide) h3, pt_wo _ (by decide) (by decide) (by decide) h2, pt_wo _ (by decide) (by decide) (by decide) h1, pt_0 (by decide)]
  · rw [pt_wo _ (by decide) (by decide) (by decide) h4, pt_wo _ (by decide) (by decide) (by decide) h3, pt_wo _ (by decide) (by decide) (by decide) h2, pt_wo _ (by decide) (by decide) (by decide) h1, pt_0 (by decide)]
  · rw [pt_wo _ (by decide) (by decide) (by decide) h4, pt_wo _ (by decide) (by decide) (by decide) h3, pt_wo _ (by decide) (by decide) (by decide) h2, pt_wo _ (by decide) (by decide) (by decide) h1, pt_0 (by decide)]
def zTh (zr : Nat → Int32) (pu sz x pl n : Nat) : Nat → Int32 := upd (zGA zr (nI pu) (nI sz) (nI (flN (drN x))) (nI pl) pu n) 7 (nI (n + 1))
theorem zTh_e (hz : LZn J n np nt x zr z) {pu sz pl : Nat} (hp : pu < np) (hn : n < 20) (hpl : zPlace (mz zr) = nI pl) : zThrow zr (nI pu) (nI sz) pu = zTh zr pu sz x pl n := by
  obtain ⟨⟨a1, a2, a3, a4⟩, ⟨b1, b2, b3, b4, b5⟩, hg, ht, hk, hpp⟩ := hz
  have e1 : zG4 zr (nI pu) (nI sz) pu n 1 = nI (drN x) := by
    unfold zG4
    rw [upd_o _ _ (by omega), upd_o _ _ (by omega), upd_o _ _ (by omega), upd_s, b4, dX_e a4]
  have e2 : dF (zG4 zr (nI pu) (nI sz) pu n 1) = nI (flN (drN x)) := by rw [e1, dF_e (dr_lt x)]
  have hN : mN (mz zr) = n := mzN b1 a1
  have e3 : ∀ fl : Int32, zPlace (mz (zG9 zr (nI pu) (nI sz) fl pu n)) = nI pl := fun fl => by
    rw [← hpl]
    refine zPlace_c b1 ?_ a1 (fun p hp2 => ?_)
    · unfold zG9 zG4; simp only [upd, if_true, if_false]; (repeat (first | rw [if_pos (by omega)] | rw [if_neg (by omega)])); exact b1
    · unfold zG9 zG4
      constructor <;> simp only [upd, if_true, if_false]; (repeat (first | rw [if_pos (by omega)] | rw [if_neg (by omega)]))
  unfold zThrow zTh
  rw [hN, e2, e3]
  congr 1
  unfold zGA zG9 zG4
  simp only [upd, if_true, if_false]; (repeat (first | rw [if_pos (by omega)] | rw [if_neg (by omega)]))
  rw [b1, nI_1]
theorem L_throw (h : IV J q zr z) (hz : LZn J n np nt x zr z) {pu sz pl : Nat} (hp : pu < np) (hs1 : 1 ≤ sz) (hs3 : sz ≤ 3) (hpl : pl < 24) (epl : zPlace (mz zr) = nI pl) (h1 : ¬ lWh z.2.2.1 (nI pu) 0 < 0) (h2 : ¬ z.2.2.2 (2 * pu) = 1) (h3 : ¬ z.1 7 = 20) : vX6_throwPot q (nI pu) (nI sz) = nI n ∧ ∃ zr2, IV (J + 1) (wX6_throwPot q (nI pu) (nI sz)) zr2 (ug (ut (ub (ug z 1 (nI (drN x))) n (wNew pu sz (flN (drN x)) pl)) (2 * pu) 1) 7 (nI n + 1)) := by
  have hnp := hz.1.2.1
  have hn : n < 20 := by
    rcases Nat.lt_or_ge n 20 with e | e
    · exact e
    · exact absurd ((hz.2.2.1 7 (by decide)).trans (hz.2.1.1.trans (by rw [show n = 20 by have := hz.1.1; omega]; rfl))) h3
  obtain ⟨c, c1, c2, c3⟩ := IV_free h
  have F := F_do (z' := ug (ut (ub (ug z 1 (nI (drN x))) n (wNew pu sz (flN (drN x)) pl)) (2 * pu) 1) 7 (nI n + 1)) h (S_throw h.2.1 (nI pu) (nI sz)) (by
    rw [noThrow_e hz hp hs1 hs3, if_neg h1, if_neg h2, if_neg h3, c3, if_neg (fun e => by have := (nI_eq (b := 0) (by omega) (by decide)).mp e; omega)]) (by
    show LZ (J + 1) (zThrow zr (nI pu) (nI sz) (cl (nI pu))) _
    rw [cl_n (by omega), zTh_e hz hp hn epl]
    obtain ⟨⟨a1, a2, a3, a4⟩, ⟨b1, b2, b3, b4, s, b5, b6⟩, hg, ht, hk, hpp⟩ := hz
    have out : ∀ j, j ≠ 1 → j ≠ 7 → j ≠ 25 + pu → ¬ (35 + 9 * n ≤ j ∧ j < 35 + 9 * n + 9) → zTh zr pu sz x pl n j = zr j := fun j j1 j7 j25 jn => by
      unfold zTh zGA zG9 zG4
      rw [upd_o _ _ j7, upd_o _ _ (by omega), upd_o _ _ (by omega), upd_o _ _ (by omega), upd_o _ _ (by omega), upd_o _ _ (by omega), upd_o _ _ (by omega), upd_o _ _ (by omega), upd_o _ _ (by omega), upd_o _ _ (by omega), upd_o _ _ (by omega), upd_o _ _ j1]
    have z1 : zTh zr pu sz x pl n 1 = nI (drN x) := by unfold zTh zGA zG9 zG4; simp only [upd, if_true, if_false]; (repeat (first | rw [if_pos (by omega)] | rw [if_neg (by omega)])); rw [b4, dX_e a4]
    have z7 : zTh zr pu sz x pl n 7 = nI (n + 1) := upd_s _ _ _
    have z25 : zTh zr pu sz x pl n (25 + pu) = 1 := by unfold zTh zGA zG9 zG4; simp only [upd, if_true, if_false]; (repeat (first | rw [if_pos (by omega)] | rw [if_neg (by omega)]))
    refine ⟨n + 1, np, nt, drN x, ⟨by omega, a2, by omega, dr_lt x⟩, ⟨z7, (out 6 (by omega) (by omega) (by omega) (by omega)).trans b2, (out 0 (by omega) (by omega) (by omega) (by omega)).trans b3, z1, s, b5, (out 2 (by omega) (by omega) (by omega) (by omega)).trans b6⟩, fun j hj => ?_, fun i hi => ⟨?_, ?_⟩, LK_c hk (Nat.le_refl _) (fun i hi => out _ (by omega) (by omega) (by omega) (by omega)), fun p hp2 => ?_⟩
    · show upd (upd z.1 1 (nI (drN x))) 7 (nI n + 1) j = _
      by_cases e7 : j = 7
      · subst e7; rw [upd_s, z7, nI_1]
      · rw [upd_o _ _ e7]
        by_cases e1 : j = 1
        · subst e1; rw [upd_s, z1]
        · rw [upd_o _ _ e1, out j e1 e7 (by omega) (by omega)]; exact hg j hj
    · show upd z.2.2.2 (2 * pu) 1 (2 * i) = _
      by_cases e : i = pu
      · subst e; rw [upd_s, z25]
      · rw [upd_o _ _ (by omega), out (25 + i) (by omega) (by omega) (by omega) (by omega)]; exact (ht i hi).1
    · show upd z.2.2.2 (2 * pu) 1 (2 * i + 1) = _
      rw [upd_o _ _ (by omega), out (15 + i) (by omega) (by omega) (by omega) (by omega)]; exact (ht i hi).2
    · show ZP (J + 1) (vp_updL z.2.1 n (wNew pu sz (flN (drN x)) pl) p) _ p
      by_cases e : p = n
      · subst e
        rw [show vp_updL z.2.1 p (wNew pu sz (flN (drN x)) pl) p = wNew pu sz (flN (drN x)) pl from pk_uLs]
        have hfl := fl_lt (drN x)
        obtain ⟨k0, k1, k2, k3, k4, k5, k6, k7⟩ := pt_new (pu := pu) (sz := sz) (fl := flN (drN x)) (pl := pl) (by omega) (by omega) (by omega) (by omega)
        have w0 : zTh zr pu sz x pl p (35 + 9 * p) = nI pu := by unfold zTh zGA zG9 zG4; simp only [upd, if_true, if_false]; (repeat (first | rw [if_pos (by omega)] | rw [if_neg (by omega)]))
        have w1 : zTh zr pu sz x pl p (35 + 9 * p + 1) = nI sz := by unfold zTh zGA zG9 zG4; simp only [upd, if_true, if_false]; (repeat (first | rw [if_pos (by omega)] | rw [if_neg (by omega)]))
        have w2 : zTh zr pu sz x pl p (35 + 9 * p + 2) = nI (flN (drN x)) := by unfold zTh zGA zG9 zG4; simp only [upd, if_true, if_false]; (repeat (first | rw [if_pos (by omega)] | rw [if_neg (by omega)]))
        have w3 : zTh zr pu sz x pl p (35 + 9 * p + 3) = 0 := by unfold zTh zGA zG9 zG4; simp only [upd, if_true, if_false]; (repeat (first | rw [if_pos (by omega)] | rw [if_neg (by omega)]))
        have w4 : zTh zr pu sz x pl p (35 + 9 * p + 4) = 0 := by unfold zTh zGA zG9 zG4; simp only [upd, if_true, if_false]; (repeat (first | rw [if_pos (by omega)] | rw [if_neg (by omega)]))
        have w5 : zTh zr pu sz x pl p (35 + 9 * p + 5) = nI pl := by unfold zTh zGA zG9 zG4; simp only [upd, if_true, if_false]; (repeat (first | rw [if_pos (by omega)] | rw [if_neg (by omega)]))
        have w6 : zTh zr pu sz x pl p (35 + 9 * p + 6) = 0 := by unfold zTh zGA zG9 zG4; simp only [upd, if_true, if_false]; (repeat (first | rw [if_pos (by omega)] | rw [if_neg (by omega)]))
        have w7 : zTh zr pu sz x pl p (35 + 9 * p + 7) = -6 := by unfold zTh zGA zG9 zG4; simp only [upd, if_true, if_false]; (repeat (first | rw [if_pos (by omega)] | rw [if_neg (by omega)]))
        have w8 : zTh zr pu sz x pl p (35 + 9 * p + 8) = 0 := by unfold zTh zGA zG9 zG4; simp only [upd, if_true, if_false]; (repeat (first | rw [if_pos (by omega)] | rw [if_neg (by omega)]))
        unfold ZP
        rw [k0, k1, k2, k3, k4, k5, k6, k7, w0, w1, w2, w3, w4, w5, w6, w7, w8]
        exact ⟨rfl, ⟨rfl, sz, hs1, hs3, rfl⟩, rfl, ⟨rfl, 0, by decide, rfl⟩, Or.inl ⟨rfl, pl, hpl, rfl, rfl⟩, ⟨0, by decide, rfl, rfl⟩, Or.inr ⟨by decide, rfl, rfl⟩, rfl, 0, by omega, rfl⟩
      · rw [show vp_updL z.2.1 n (wNew pu sz (flN (drN x)) pl) p = z.2.1 p from pk_uLn e]
        exact LP_c (hpp p (by omega)) (by omega) (fun i hi => out _ (by omega) (by omega) (by omega) (by omega)))
  refine ⟨F.1.trans ?_, _, F.2⟩
  exact hz.2.1.1
end LCl
