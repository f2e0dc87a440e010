/-! what an order asks and does, over the row z alone -/
def mz (z : Nat → Int32) : MS := (fun _ => z, fun _ => 0)
theorem mRow2 (y : MS) (r : Nat) (g h : Nat → Int32) : mRow (mRow y r g) r h = mRow y r h := by
  show (va_up (va_up y.1 r g) r h, y.2) = _
  rw [va_up_2]
theorem mRow_at (y : MS) (r : Nat) (g : Nat → Int32) : (mRow y r g).1 r = g := va_up_at _ _ _
theorem mRow_i (y : MS) (r : Nat) : mRow y r (y.1 r) = y := mS_id y r
theorem zF1_Z (y : MS) (heat : Int32) (i : Nat) : zF1 y heat i = mRow y 0 ((zF1 (mz (y.1 0)) heat i).1 0) := by
  unfold zF1
  show (if y.1 0 (35 + 9 * i + 4) = 1 then _ else _) = mRow y 0 ((if y.1 0 (35 + 9 * i + 4) = 1 then _ else _ : MS).1 0)
  by_cases h : y.1 0 (35 + 9 * i + 4) = 1
  · rw [if_pos h, if_pos h]
    show (if vX7_fired y (nI i) heat i = 4 then _ else _) = mRow y 0 ((if vX7_fired y (nI i) heat i = 4 then _ else _ : MS).1 0)
    by_cases h2 : vX7_fired y (nI i) heat i = 4
    · rw [if_pos h2, if_pos h2]
      simp only [zFb, zFa, mRow2, mRow_at]
      rfl
    · rw [if_neg h2, if_neg h2]
      simp only [zRack, zFb, zFa, mRow2, mRow_at]
      rfl
  · rw [if_neg h, if_neg h]; exact (mRow_i y 0).symm
theorem zD1_Z (y : MS) (i : Nat) : zD1 y i = mRow y 0 ((zD1 (mz (y.1 0)) i).1 0) := by
  unfold zD1
  show (if y.1 0 (35 + 9 * i + 3) = 0 then _ else _) = mRow y 0 ((if y.1 0 (35 + 9 * i + 3) = 0 then _ else _ : MS).1 0)
  by_cases h : y.1 0 (35 + 9 * i + 3) = 0
  · rw [if_pos h, if_pos h]
    show (if y.1 0 (35 + 9 * i + 4) = 0 then _ else _) = mRow y 0 ((if y.1 0 (35 + 9 * i + 4) = 0 then _ else _ : MS).1 0)
    by_cases h2 : y.1 0 (35 + 9 * i + 4) = 0
    · rw [if_pos h2, if_pos h2, mRow_at]; rfl
    · rw [if_neg h2, if_neg h2]; exact (mRow_i y 0).symm
  · rw [if_neg h, if_neg h]; exact (mRow_i y 0).symm
theorem zDN_Z (y : MS) : ∀ i, zDN y i = mRow y 0 ((zDN (mz (y.1 0)) i).1 0)
  | 0 => (mRow_i y 0).symm
  | i + 1 => by
    show zD1 (zDN y i) i = mRow y 0 ((zD1 (zDN (mz (y.1 0)) i) i).1 0)
    rw [zDN_Z y i, zD1_Z, mRow2, mRow_at, zD1_Z (zDN (mz (y.1 0)) i)]
    rw [mRow_at]
theorem zNight_Z (y : MS) : zNight y = mRow y 0 ((zNight (mz (y.1 0))).1 0) := by
  have e : (zDN y (mN y)).1 0 = (zDN (mz (y.1 0)) (mN y)).1 0 := by rw [zDN_Z y, mRow_at]
  unfold zNight zN3 zN2 zN1
  simp only [mRow2, mRow_at]
  rw [e, zDN_Z y, mRow2]
  rfl
