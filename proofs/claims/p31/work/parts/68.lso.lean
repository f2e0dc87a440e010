/-! what the face says of all -/
section LSo
variable {J n np nt x : Nat} {zr : Nat → Int32} {z : ZS} {q : PS}
def lRk (b : Nat → Int64) : Nat → Bool := fun p => decide (¬ 24 ≤ pt (b p) 4)
def lKi (b : Nat → Int64) : Nat → Bool := fun p => decide (pt (b p) 4 = 24)
def lCan (g : Nat → Int32) (b : Nat → Int64) (n : Nat) : Nat → Bool := fun p => decide (lWhy g b n p = 0)
theorem PL_rk {pl wh sp : Int32} (h : PL pl wh sp) : ¬ 24 ≤ pl ↔ wh = 0 := by
  rcases h with ⟨h1, c, h2, h3, h4⟩ | ⟨h1, h2⟩ | ⟨h1, h2⟩
  · rw [h1, h3]; exact ⟨fun _ => rfl, fun _ => lit24 c h2⟩
  · rw [h1, h2]; decide
  · rw [h1, h2]; decide
theorem C_q (h : IV J q zr z) (what : Int32) (h19 : ¬ what = 19) (h20 : ¬ what = 20) : vX6_count q what = vX7_count (mz zr) what := by
  unfold vX6_count
  rw [if_neg h19, if_neg h20]
  exact Q_figure h.2.1 what h19 h20
theorem C_low (h : IV J q zr z) {m : Nat} (hm : m ≤ 10) : vX6_count q (nI m) = (if nI m = 0 then zr 0 else if nI m = 1 then zr 6 else if nI m = 2 then zr 7 else if nI m = 3 then zPotsAt (mz zr) 0 else if nI m = 4 then zPotsAt (mz zr) 1 else if nI m = 5 then zSz zr (mN (mz zr)) else if nI m = 6 then vX7_freePlaces (mz zr) else if nI m = 7 then zLoadable (mz zr) else if nI m = 8 then zr 8 else if nI m = 9 then zr 9 else zr 10 : Int32) := by
  refine (C_q h (nI m) (fun e => by have := (nI_eq (b := 19) (by omega) (by decide)).mp e; omega) (fun e => by have := (nI_eq (b := 20) (by omega) (by decide)).mp e; omega)).trans ?_
  unfold vX7_count
  rw [if_neg (show ¬ isW (nI m) 11 14 = true from isW_no (lo := 11) (hi := 14) (Or.inl (by omega)) (by omega) (by decide) (by decide)), if_neg (show ¬ isW (nI m) 15 18 = true from isW_no (lo := 15) (hi := 18) (Or.inl (by omega)) (by omega) (by decide) (by decide))]
  rcases (show m = 0 ∨ m = 1 ∨ m = 2 ∨ m = 3 ∨ m = 4 ∨ m = 5 ∨ m = 6 ∨ m = 7 ∨ m = 8 ∨ m = 9 ∨ m = 10 by omega) with rfl | rfl | rfl | rfl | rfl | rfl | rfl | rfl | rfl | rfl | rfl <;> rfl
theorem C_0 (h : IV J q zr z) (hz : LZn J n np nt x zr z) : vX6_count q 0 = z.1 0 := (C_low h (m := 0) (by decide)).trans (hz.2.2.1 0 (by decide)).symm
theorem C_1 (h : IV J q zr z) (hz : LZn J n np nt x zr z) : vX6_count q 1 = z.1 6 := (C_low h (m := 1) (by decide)).trans (hz.2.2.1 6 (by decide)).symm
theorem C_2 (h : IV J q zr z) (hz : LZn J n np nt x zr z) : vX6_count q 2 = z.1 7 := (C_low h (m := 2) (by decide)).trans (hz.2.2.1 7 (by decide)).symm
theorem C_3 (h : IV J q zr z) (hz : LZn J n np nt x zr z) : vX6_count q 3 = mk (lRk z.2.1) n := by
  refine (C_low h (m := 3) (by decide)).trans ?_
  show mk (zPA zr 0) (mN (mz zr)) = _
  rw [LZ_N hz]
  exact mk_cong (fun p hp => decide_eq_decide.mpr (PL_rk (LZ_pl hz hp)).symm)
theorem C_4 (h : IV J q zr z) (hz : LZn J n np nt x zr z) : vX6_count q 4 = mk (lKi z.2.1) n := by
  refine (C_low h (m := 4) (by decide)).trans ?_
  show mk (zPA zr 1) (mN (mz zr)) = _
  rw [LZ_N hz]
  exact mk_cong (fun p hp => decide_eq_decide.mpr (PL_k (LZ_pl hz hp)).symm)
theorem C_5 (h : IV J q zr z) (hz : LZn J n np nt x zr z) : vX6_count q 5 = lKs z.2.1 n := by
  refine (C_low h (m := 5) (by decide)).trans ?_
  show zSz zr (mN (mz zr)) = _
  rw [LZ_N hz, lKs_z hz n (Nat.le_refl _)]
theorem C_6 (h : IV J q zr z) (hz : LZn J n np nt x zr z) : vX6_count q 6 = 24 - cnI (lRk z.2.1) n := by
  refine (C_low h (m := 6) (by decide)).trans ?_
  show 24 - oneN (mk (zPA zr 0) (mN (mz zr))) 20 = _
  rw [LZ_N hz, one_mk _ hz.1.1, cnI_ct]
  exact congrArg (fun c => (24 : Int32) - nI c) (fb_ct_cong (fun p hp => decide_eq_decide.mpr (PL_rk (LZ_pl hz hp)).symm))
theorem C_7 (h : IV J q zr z) (hz : LZn J n np nt x zr z) : vX6_count q 7 = mk (lCan z.1 z.2.1 n) n := by
  refine (C_low h (m := 7) (by decide)).trans ?_
  show mk (zLdP (mz zr)) (mN (mz zr)) = _
  rw [LZ_N hz]
  exact mk_cong (fun p hp => by show decide (vX7_whyNot (mz zr) (nI p) p = 0) = decide (lWhy z.1 z.2.1 n p = 0); rw [lWhy_z hz hp])
theorem C_8 (h : IV J q zr z) (hz : LZn J n np nt x zr z) : vX6_count q 8 = z.1 8 := (C_low h (m := 8) (by decide)).trans (hz.2.2.1 8 (by decide)).symm
theorem C_9 (h : IV J q zr z) (hz : LZn J n np nt x zr z) : vX6_count q 9 = z.1 9 := (C_low h (m := 9) (by decide)).trans (hz.2.2.1 9 (by decide)).symm
theorem C_10 (h : IV J q zr z) (hz : LZn J n np nt x zr z) : vX6_count q 10 = z.1 10 := (C_low h (m := 10) (by decide)).trans (hz.2.2.1 10 (by decide)).symm
theorem C_11 (h : IV J q zr z) (hz : LZn J n np nt x zr z) {i : Nat} (hi : i < 4) : vX6_count q (nI (11 + i)) = z.1 (11 + i) := by
  refine (C_q h (nI (11 + i)) (fun e => by have := (nI_eq (b := 19) (by omega) (by decide)).mp e; omega) (fun e => by have := (nI_eq (b := 20) (by omega) (by decide)).mp e; omega)).trans ?_
  unfold vX7_count
  rw [if_pos (show isW (nI (11 + i)) 11 14 = true from isW_nI (lo := 11) (hi := 14) (by omega) (by omega) (by decide)), cl_n (by omega)]
  show zr (11 + (11 + i - 11)) = _
  rw [show 11 + (11 + i - 11) = 11 + i by omega]
  exact (hz.2.2.1 (11 + i) (by omega)).symm
theorem C_15 (h : IV J q zr z) (hz : LZn J n np nt x zr z) {i : Nat} (hi : i < 4) : vX6_count q (nI (15 + i)) = z.1 (2 + i) := by
  refine (C_q h (nI (15 + i)) (fun e => by have := (nI_eq (b := 19) (by omega) (by decide)).mp e; omega) (fun e => by have := (nI_eq (b := 20) (by omega) (by decide)).mp e; omega)).trans ?_
  unfold vX7_count
  rw [if_neg (show ¬ isW (nI (15 + i)) 11 14 = true from isW_no (lo := 11) (hi := 14) (Or.inr (by omega)) (by omega) (by decide) (by decide)), if_pos (show isW (nI (15 + i)) 15 18 = true from isW_nI (lo := 15) (hi := 18) (by omega) (by omega) (by decide)), cl_n (by omega)]
  show zr (2 + (15 + i - 15)) = _
  rw [show 2 + (15 + i - 15) = 2 + i by omega]
  exact (hz.2.2.1 (2 + i) (by omega)).symm
theorem C_bk (h : IV J q zr z) (hz : LZn J n np nt x zr z) {m : Nat} (hm : m < 30) : vX6_booked q (nI (m / 6)) (nI (m % 6)) = (if z.2.2.1 m = 0 then -6 else z.2.2.1 m - 1 : Int32) := by
  refine (Q_booked h.2.1 _ _).trans ?_
  unfold vX7_booked
  rw [if_pos (isWh (by omega)), if_pos (isA (by omega)), cl_n (by omega), cl_n (by omega)]
  show zr (215 + 21 * (m / 6) + m % 6) = _
  have hb := hz.2.2.2.2.1.1 (m / 6) (m % 6) (by omega) (by omega)
  rw [show 6 * (m / 6) + m % 6 = m by omega] at hb
  have hnp := hz.1.2.1
  rcases hb with ⟨h1, h2⟩ | ⟨u, h1, h2, h3⟩
  · rw [h1, h2]; rfl
  · rw [h2, h3, if_neg (fun e => by have := (nI_eq (b := 0) (by omega) (by decide)).mp e; omega), show (1 : Int32) = nI 1 from rfl, pk_sub (by omega), Nat.add_sub_cancel]
end LSo
