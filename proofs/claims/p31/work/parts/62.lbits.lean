/-! a pot is a long: fields of six bits -/
def bL (x : Int64) (i : Nat) : Bool := x.toBitVec.getLsbD i
theorem bL_ext {x y : Int64} (h : ∀ i, i < 64 → bL x i = bL y i) : x = y := Int64.toBitVec_inj.mp (BitVec.eq_of_getLsbD_eq (fun i hi => h i hi))
theorem bL_or (x y : Int64) (i : Nat) : bL (x ||| y) i = (bL x i || bL y i) := by unfold bL; rw [Int64.toBitVec_or, BitVec.getLsbD_or]
theorem bL_and (x y : Int64) (i : Nat) : bL (x &&& y) i = (bL x i && bL y i) := by unfold bL; rw [Int64.toBitVec_and, BitVec.getLsbD_and]
theorem bL_xor (x y : Int64) (i : Nat) : bL (x ^^^ y) i = (bL x i ^^ bL y i) := by unfold bL; rw [Int64.toBitVec_xor, BitVec.getLsbD_xor]
theorem bL_63 : ∀ i, i < 64 → bL 63 i = decide (i < 6) := by decide +kernel
theorem bL_m1 : ∀ i, i < 64 → bL (-1) i = true := by decide +kernel
theorem bL_0 : ∀ i, i < 64 → bL 0 i = false := by decide +kernel
theorem sL : ∀ i, i < 8 → (((6 * nI i).toInt64 &&& 63).toBitVec.smod 64).toNat = 6 * i := by decide +kernel
theorem bL_shl (i : Nat) (hi : i < 8) (x : Int64) {j : Nat} (hj : j < 64) : bL (lS x (6 * nI i)) j = (decide (6 * i ≤ j) && bL x (j - 6 * i)) := by
  unfold bL lS
  rw [Int64.toBitVec_shiftLeft]
  show (x.toBitVec <<< (((6 * nI i).toInt64 &&& 63).toBitVec.smod 64).toNat).getLsbD j = _
  rw [sL i hi, BitVec.getLsbD_shiftLeft]
  rcases Nat.lt_or_ge j (6 * i) with h | h
  · simp [h, Nat.not_le.mpr h]
  · simp [hj, h, Nat.not_lt.mpr h]
theorem bL_shr (i : Nat) (hi : i < 8) (x : Int64) {j : Nat} (hj : 6 * i + j < 64) : bL (lR x (6 * nI i)) j = bL x (6 * i + j) := by
  unfold bL lR
  rw [Int64.toBitVec_shiftRight]
  show (x.toBitVec.sshiftRight (((6 * nI i).toInt64 &&& 63).toBitVec.smod 64).toNat).getLsbD j = _
  rw [sL i hi, BitVec.getLsbD_sshiftRight]
  simp [hj, show j < 64 by omega]
theorem bt_l2i (x : Int64) {j : Nat} (hj : j < 32) : bt x.toInt32 j = bL x j := by
  unfold bt bL
  rw [Int64.toBitVec_toInt32, BitVec.getLsbD_signExtend]
  simp [hj, show j < 64 by omega]
theorem bt_pt (x : Int64) {i : Nat} (hi : i < 8) {j : Nat} (hj : j < 32) : bt (pt x i) j = (decide (j < 6) && bL x (6 * i + j)) := by
  unfold pt
  rw [bt_l2i _ hj, bL_and, bL_63 j (by omega)]
  by_cases h : j < 6
  · rw [bL_shr i hi x (by omega)]; simp [h]
  · simp [h]
theorem bL_i2l (c : Nat) (hc : c < 64) : ∀ j, j < 64 → bL (nI c).toInt64 j = bt (nI c) j := by
  revert c
  decide +kernel
theorem bt_6 : ∀ c, c < 64 → ∀ j, j < 64 → 6 ≤ j → bt (nI c) j = false := by decide +kernel
theorem bL_wt (x : Int64) {i : Nat} (hi : i < 8) {c : Nat} (hc : c < 64) {j : Nat} (hj : j < 64) : bL (wt x i (nI c)) j = if 6 * i ≤ j ∧ j < 6 * i + 6 then bt (nI c) (j - 6 * i) else bL x j := by
  unfold wt
  rw [bL_or, bL_and, bL_xor, bL_shl i hi _ hj, bL_shl i hi _ hj, bL_m1 j hj]
  by_cases h : 6 * i ≤ j
  · rw [bL_63 (j - 6 * i) (by omega), bL_i2l c hc (j - 6 * i) (by omega)]
    by_cases h2 : j < 6 * i + 6
    · rw [if_pos ⟨h, h2⟩]
      simp [h, show j - 6 * i < 6 by omega]
    · rw [if_neg (fun z => h2 z.2), bt_6 c hc (j - 6 * i) (by omega) (by omega)]
      simp [show ¬ j - 6 * i < 6 by omega]
  · rw [if_neg (fun z => h z.1)]
    simp [h]
theorem pt_wt (x : Int64) {i : Nat} (hi : i < 8) {c : Nat} (hc : c < 64) : pt (wt x i (nI c)) i = nI c := b_ext (fun j hj => by
  rw [bt_pt _ hi hj]
  by_cases h : j < 6
  · rw [bL_wt x hi hc (by omega), if_pos ⟨by omega, by omega⟩, show 6 * i + j - 6 * i = j by omega]
    simp [h]
  · rw [bt_6 c hc j (by omega) (by omega)]
    simp [h])
theorem pt_wo (x : Int64) {i i2 : Nat} (hi : i < 8) (hi2 : i2 < 8) (hne : i2 ≠ i) {c : Nat} (hc : c < 64) : pt (wt x i (nI c)) i2 = pt x i2 := b_ext (fun j hj => by
  rw [bt_pt _ hi2 hj, bt_pt _ hi2 hj]
  by_cases h : j < 6
  · rw [bL_wt x hi hc (by omega), if_neg (by omega)]
  · simp [h])
theorem pt_0 {i : Nat} (hi : i < 8) : pt 0 i = 0 := b_ext (fun j hj => by
  rw [bt_pt _ hi hj, b_0]
  by_cases h : j < 6
  · rw [bL_0 _ (by omega)]; simp
  · simp [h])
