theorem kdN_X7_undo : yX7_undo.cls ≠ "java/lang/invoke/MethodHandle" ∧ yX7_undo.cls ≠ "java/lang/invoke/VarHandle" ∧ (parseMethodDescriptor yX7_undo.desc).map (fun d => d.parameters.length) = some 0 := by decide +kernel
theorem kdV_X7_undo : yX7_undo.cls = RX7 ∧ yX7_undo.cls ≠ "java/lang/invoke/MethodHandle" ∧ yX7_undo.cls ≠ "java/lang/invoke/VarHandle" ∧ (parseMethodDescriptor yX7_undo.desc).map (fun d => d.parameters.length) = some 0 := ⟨rfl, kdN_X7_undo⟩
def mQK (y : MS) : Prop := y.1 0 6 = nI (mQ y) ∧ mQ y ≤ 10
theorem mOK_upd {y : MS} (h : mOK y) {j : Nat} (v : Int32) (hj : j ≠ 7) : mOK (mRow y 0 (upd (y.1 0) j v)) := by
  have e : (mRow y 0 (upd (y.1 0) j v)).1 0 7 = y.1 0 7 := by
    show upd (y.1 0) j v 7 = _
    exact if_neg (Ne.symm hj)
  unfold mOK mN at *
  rw [e]
  exact h
theorem mQK_upd {y : MS} (h : mQK y) {j : Nat} (v : Int32) (hj : j ≠ 6) : mQK (mRow y 0 (upd (y.1 0) j v)) := by
  have e : (mRow y 0 (upd (y.1 0) j v)).1 0 6 = y.1 0 6 := by
    show upd (y.1 0) j v 6 = _
    exact if_neg (Ne.symm hj)
  unfold mQK mQ at *
  rw [e]
  exact h
theorem mQK_rec {y : MS} (h : mQK y) : mQK (mRec y) := h
theorem mPupil {y : MS} {q : Int32} (hQ : mQK y) (h : vX7_isPupil y q = true) : q = nI (cl q) ∧ cl q < mQ y := isW_pr hQ.1 (by have := hQ.2; omega) h
theorem mPot {y : MS} {q : Int32} (hM : mOK y) (h : vX7_isPot y q = true) : q = nI (cl q) ∧ cl q < mN y := isW_pr hM.1 (by have := hM.2; omega) h
theorem mWheel {q : Int32} (h : vX7_isWheel q = true) : q = nI (cl q) ∧ cl q < 5 := by
  obtain ⟨a, b, c⟩ := isW_nat (lo := 0) (hi := 4) (by decide) (by decide) h
  exact ⟨a, by omega⟩
theorem mAhead {q : Int32} (h : vX7_isAhead q = true) : q = nI (cl q) ∧ cl q < 21 := by
  obtain ⟨a, b, c⟩ := isW_nat (lo := 0) (hi := 20) (by decide) (by decide) h
  exact ⟨a, by omega⟩
theorem mGlaze {q : Int32} (h : vX7_isGlaze q = true) : q = nI (cl q) ∧ cl q < 4 := by
  obtain ⟨a, b, c⟩ := isW_nat (lo := 0) (hi := 3) (by decide) (by decide) h
  exact ⟨a, by omega⟩
def mUndo (y : MS) : MS := if y.2 0 = 0 then y else mRow (mSc y 0 (y.2 0 - 1)) 0 (va_cpy (y.1 1) (y.1 0) (320 * (mKn y - 1)) 0 320)
def mUndoV (y : MS) : Int32 := if y.2 0 = 0 then -5 else y.2 0 - 1
theorem in_X7_undo_7 : ∀ w ∈ u_ws RX7 TX7 13, w ∈ wsX7_undo := by decide +kernel
theorem fl_X7_undo_30 : Cond.fieldLink RX7 30 (TX7 2).1 (TX7 2).2.1 (TX7 2).2.2.1 ∈ wsX7_undo := by decide +kernel
theorem fl_X7_undo_7 : Cond.fieldLink RX7 7 (TX7 0).1 (TX7 0).2.1 (TX7 0).2.2.1 ∈ wsX7_undo := by decide +kernel
theorem fl_X7_undo_13 : Cond.fieldLink RX7 13 (TX7 1).1 (TX7 1).2.1 (TX7 1).2.2.1 ∈ wsX7_undo := by decide +kernel
abbrev rmX7_undo : Room := { frames := 0, cells := 0, slots := 0, locals := 0 }
set_option maxHeartbeats 4000000 in
set_option maxRecDepth 100000 in
theorem k_X7_undo (l : Launch) {k : gK} {L : List Nat} {f : Nat → va_E} (hL : L.Nodup) {o : Nat → Nat} {y : MS} (hW : isMS k L f o y) (hK : mKK y)  : kM l k L f yX7_undo wsX7_undo rmX7_undo [.ref (o 0)] (mP k L o f (some (.int (mUndoV y))) (mUndo y)) := by
  refine kM_of (cc := cX7_undo) (maxL := 2) (ret := (some .int)) (by decide) rfl (Nat.le_of_ble_eq_true rfl) ?_
  intro p e s m args below meth c C hr
  have hD : gD (fun q => q ∈ L) L := ⟨hL, fun _ h => h⟩
  refine gx_lv [(0, _)] [0] rfl ?_
  refine gx_aload_n (q := 0) C dX7_undo_0 rfl ?_
  refine gx_get C (i := 2) (isMS_in hW 0 (Nat.le_of_ble_eq_true rfl)) (isMS_0 hW) rfl in_X7_undo_7 (by decide) fl_X7_undo_30 rfl dX7_undo_1 ?_
  refine gx_if_ne (tgt := 10) C dX7_undo_4 (by decide) (fun c_4 => ?_) (fun c_4 => ?_)
  · skip
    refine gx_aload_n (q := 0) C dX7_undo_10 rfl ?_
    refine gx_dup C rfl dX7_undo_11 ?_
    refine gx_get C (i := 2) (isMS_in hW 0 (Nat.le_of_ble_eq_true rfl)) (isMS_0 hW) rfl in_X7_undo_7 (by decide) fl_X7_undo_30 rfl dX7_undo_12 ?_
    refine gx_iconst (v := 1) C dX7_undo_15 (by decide) ?_
    refine gx_isub C dX7_undo_16 ?_
    refine gx_put C hD (i := 2) (ty := .int) tyX7_ok nmX7 (isMS_in hW 0 (Nat.le_of_ble_eq_true rfl)) (isMS_0 hW) rfl in_X7_undo_7 (by decide) fl_X7_undo_30 rfl (by decide +kernel) rfl rfl (Nat.le_of_ble_eq_true rfl) rfl dX7_undo_17 ?_
    refine gx_Ss0 hW (gFr_rf (f := f)) (fun f_1 hW_1 hF_1 => ?_)
    have hk : y.2 0 - 1 = nI (mKn y - 1) := by rw [hK.1]; exact nSub rfl rfl (Nat.one_le_iff_ne_zero.mpr (fun z => c_4 (by rw [hK.1, z]; rfl)))
    refine gx_iconst (v := 0) C dX7_undo_20 (by decide) ?_
    refine gx_istore_n C (i := 1) [(1, _), (0, _)] dX7_undo_21 rfl (by decide) rfl ?_
    refine gx_loop (σ := Nat × (Nat → va_E)) (fun z => z.2) (fun z => [(0, .ref (o 0)), (1, .int (nI z.1))]) (fun z => z.1 ≤ 320 ∧ isMS k L z.2 o (mRow (mSc y 0 (y.2 0 - 1)) 0 (va_cpy (y.1 1) (y.1 0) (320 * (mKn y - 1)) 0 z.1)) ∧ gFr o 6 f z.2) (fun z => 320 - z.1) (0, _) [1, 0] rfl rfl ?_ ?_
    · exact ⟨Nat.zero_le _, (isMS_same hW_1 (mRow_0 (mSc y 0 (y.2 0 - 1)) 0 _ _ _)), hF_1⟩
    intro ⟨i, fi⟩ ⟨hI, hWi, hFi⟩ ih
    try dsimp only at hI hWi hFi ih ⊢
    refine gx_iload_n (q := 1) C dX7_undo_22 rfl ?_
    refine gx_sipush (v := 320) C dX7_undo_23 (by decide) ?_
    refine gx_icmp_ge (tgt := 56) C dX7_undo_26 (by decide) (fun c_26 => ?_) (fun c_26 => ?_)
    · skip
      have hb : i = 320 := Nat.le_antisymm hI ((nI_leI (a := 320) (b := i) (by decide) (by omega)).mp c_26)
      subst hb
      refine gx_aload_n (q := 0) C dX7_undo_56 rfl ?_
      refine gx_get C (i := 2) (isMS_in hWi 0 (Nat.le_of_ble_eq_true rfl)) (isMS_0 hWi) rfl in_X7_undo_7 (by decide) fl_X7_undo_30 rfl dX7_undo_57 ?_
      exact gx_iretS C hr hWi hFi dX7_undo_60 (by exact (if_neg c_4).symm) (by exact (if_neg c_4).symm)
    · skip
      have hlt : i < 320 := Nat.lt_of_not_le (fun z => c_26 ((nI_leI (a := 320) (b := i) (by decide) (by omega)).mpr z))
      have hk6 := hK.2
      refine gx_aload_n (q := 0) C dX7_undo_29 rfl ?_
      refine gx_get C (i := 0) (isMS_in hWi 0 (Nat.le_of_ble_eq_true rfl)) (isMS_0 hWi) rfl in_X7_undo_7 (by decide) fl_X7_undo_7 rfl dX7_undo_30 ?_
      refine gx_iload_n (q := 1) C dX7_undo_33 rfl ?_
      refine gx_aload_n (q := 0) C dX7_undo_34 rfl ?_
      refine gx_get C (i := 1) (isMS_in hWi 0 (Nat.le_of_ble_eq_true rfl)) (isMS_0 hWi) rfl in_X7_undo_7 (by decide) fl_X7_undo_13 rfl dX7_undo_35 ?_
      refine gx_sipush (v := 320) C dX7_undo_38 (by decide) ?_
      refine gx_aload_n (q := 0) C dX7_undo_41 rfl ?_
      refine gx_get C (i := 2) (isMS_in hWi 0 (Nat.le_of_ble_eq_true rfl)) (isMS_0 hWi) rfl in_X7_undo_7 (by decide) fl_X7_undo_30 rfl dX7_undo_42 ?_
      refine gx_imul C dX7_undo_45 ?_
      refine gx_iload_n (q := 1) C dX7_undo_46 rfl ?_
      refine gx_iadd C dX7_undo_47 ?_
      refine gx_ialdN C (isMS_in hWi 2 (Nat.le_of_ble_eq_true rfl)) (isMS_a1 hWi) (nAdd (nMul (nLit 320) hk) rfl) (by omega) (by decide) dX7_undo_48 ?_
      refine gx_iastN C hD (isMS_in hWi 1 (Nat.le_of_ble_eq_true rfl)) (isMS_a0 hWi) rfl (by omega) (by decide) dX7_undo_49 ?_
      refine gx_Su0 hWi hFi (fun f_2 hW_2 hF_2 => ?_)
      refine gx_iinc C (q := 1) (v := nI (i + 1)) [(1, _), (0, _)] dX7_undo_50 rfl (nI_inc i) (by decide) rfl ?_
      refine gx_goto (tgt := 22) C dX7_undo_53 (by decide) ?_
      exact gx_back [1, 0] (ih (i + 1, _) ⟨by omega, (isMS_same hW_2 (mRow_s (mSc y 0 (y.2 0 - 1)) 0 _ _ _ _ _ (by omega) rfl)), hF_2⟩ (by show 320 - (i + 1) < 320 - i; omega)) rfl (by rfl)
  · skip
    refine gx_bipush (v := (-5)) C dX7_undo_7 (by decide) ?_
    exact gx_iretS C hr hW (gFr_rf (f := f)) dX7_undo_9 (by exact ((if_pos c_4).trans (rfl)).symm) (by exact ((if_pos c_4).trans (rfl)).symm)
theorem kdN_X7_save : yX7_save.cls ≠ "java/lang/invoke/MethodHandle" ∧ yX7_save.cls ≠ "java/lang/invoke/VarHandle" ∧ (parseMethodDescriptor yX7_save.desc).map (fun d => d.parameters.length) = some 1 := by decide +kernel
theorem kdV_X7_save : yX7_save.cls = RX7 ∧ yX7_save.cls ≠ "java/lang/invoke/MethodHandle" ∧ yX7_save.cls ≠ "java/lang/invoke/VarHandle" ∧ (parseMethodDescriptor yX7_save.desc).map (fun d => d.parameters.length) = some 1 := ⟨rfl, kdN_X7_save⟩
def mSave (y : MS) (q : Int32) : MS := if isW q 0 1 = true then mRow (mRow y 2 (va_cpy (y.1 0) (y.1 2) 0 (320 * cl q) 320)) 3 (upd (y.1 3) (cl q) 1) else y
def mSaveV (y : MS) (q : Int32) : Int32 := if isW q 0 1 = true then y.1 0 7 else -2
theorem in_X7_save_7 : ∀ w ∈ u_ws RX7 TX7 13, w ∈ wsX7_save := by decide +kernel
theorem fl_X7_save_19 : Cond.fieldLink RX7 19 (TX7 4).1 (TX7 4).2.1 (TX7 4).2.2.1 ∈ wsX7_save := by decide +kernel
theorem fl_X7_save_7 : Cond.fieldLink RX7 7 (TX7 0).1 (TX7 0).2.1 (TX7 0).2.2.1 ∈ wsX7_save := by decide +kernel
theorem fl_X7_save_16 : Cond.fieldLink RX7 16 (TX7 3).1 (TX7 3).2.1 (TX7 3).2.2.1 ∈ wsX7_save := by decide +kernel
abbrev rmX7_save : Room := { frames := 1, cells := 0, slots := 0, locals := 22 }
set_option maxHeartbeats 4000000 in
set_option maxRecDepth 100000 in
theorem k_X7_save (l : Launch) {k : gK} {L : List Nat} {f : Nat → va_E} (hL : L.Nodup) {o : Nat → Nat} {y : MS} (hW : isMS k L f o y) (q : Int32) : kM l k L f yX7_save wsX7_save rmX7_save [.ref (o 0), .int q] (mP k L o f (some (.int (mSaveV y q))) (mSave y q)) := by
  refine kM_of (cc := cX7_save) (maxL := 3) (ret := (some .int)) (by decide) rfl (Nat.le_of_ble_eq_true rfl) ?_
  intro p e s m args below meth c C hr
  have hD : gD (fun q => q ∈ L) L := ⟨hL, fun _ h => h⟩
  refine gx_lv [(0, _), (1, _)] [0, 1] rfl ?_
  refine gx_iload_n (q := 1) C dX7_save_0 rfl ?_
  refine gx_iconst (v := 0) C dX7_save_1 (by decide) ?_
  refine gx_iconst (v := 1) C dX7_save_2 (by decide) ?_
  refine gx_callRS C (k_X7_in l (k := k) (L := L) _ _ _) (va_cwS 3 C.2.2.2.2.1 gX7_save_X7_in rfl rfl rfl kdN_X7_in ⟨Nat.le_of_ble_eq_true rfl, Nat.le_of_ble_eq_true rfl⟩) rfl rfl (Nat.le_of_ble_eq_true rfl) ⟨Nat.le_of_ble_eq_true rfl, Nat.le_of_ble_eq_true rfl⟩ dX7_save_3 ?_
  refine gx_if_ne (tgt := 12) C dX7_save_6 (by decide) (fun c_6 => ?_) (fun c_6 => ?_)
  · skip
    have h_6 := bI1.mp c_6
    obtain ⟨n_q, -, b_q⟩ := isW_nat (lo := 0) (hi := 1) (by decide) (by decide) h_6
    refine gx_iconst (v := 0) C dX7_save_12 (by decide) ?_
    refine gx_istore_n C (i := 2) [(2, _), (0, _), (1, _)] dX7_save_13 rfl (by decide) rfl ?_
    refine gx_loop (σ := Nat × (Nat → va_E)) (fun z => z.2) (fun z => [(0, .ref (o 0)), (1, .int q), (2, .int (nI z.1))]) (fun z => z.1 ≤ 320 ∧ isMS k L z.2 o (mRow y 2 (va_cpy (y.1 0) (y.1 2) 0 (320 * cl q) z.1)) ∧ gFr o 6 f z.2) (fun z => 320 - z.1) (0, _) [1, 2, 0] rfl rfl ?_ ?_
    · exact ⟨Nat.zero_le _, (isMS_same hW (mRow_0 y 2 _ _ _)), (gFr_rf (f := f))⟩
    intro ⟨i, fi⟩ ⟨hI, hWi, hFi⟩ ih
    try dsimp only at hI hWi hFi ih ⊢
    refine gx_iload_n (q := 2) C dX7_save_14 rfl ?_
    refine gx_sipush (v := 320) C dX7_save_15 (by decide) ?_
    refine gx_icmp_ge (tgt := 45) C dX7_save_18 (by decide) (fun c_18 => ?_) (fun c_18 => ?_)
    · skip
      have hb : i = 320 := Nat.le_antisymm hI ((nI_leI (a := 320) (b := i) (by decide) (by omega)).mp c_18)
      subst hb
      refine gx_aload_n (q := 0) C dX7_save_45 rfl ?_
      refine gx_get C (i := 4) (isMS_in hWi 0 (Nat.le_of_ble_eq_true rfl)) (isMS_0 hWi) rfl in_X7_save_7 (by decide) fl_X7_save_19 rfl dX7_save_46 ?_
      refine gx_iload_n (q := 1) C dX7_save_49 rfl ?_
      refine gx_iconst (v := 1) C dX7_save_50 (by decide) ?_
      refine gx_zastN C hD (isMS_in hWi 4 (Nat.le_of_ble_eq_true rfl)) (isMS_a3 hWi) n_q (by omega) (by decide) dX7_save_51 ?_
      refine gx_Su3 hWi hFi (fun f_1 hW_1 hF_1 => ?_)
      refine gx_aload_n (q := 0) C dX7_save_52 rfl ?_
      refine gx_get C (i := 0) (isMS_in hW_1 0 (Nat.le_of_ble_eq_true rfl)) (isMS_0 hW_1) rfl in_X7_save_7 (by decide) fl_X7_save_7 rfl dX7_save_53 ?_
      refine gx_bipush (v := 7) C dX7_save_56 (by decide) ?_
      refine gx_ialdN C (isMS_in hW_1 1 (Nat.le_of_ble_eq_true rfl)) (isMS_a0 hW_1) (nLit 7) (by omega) (by decide) dX7_save_58 ?_
      exact gx_iretS C hr hW_1 hF_1 dX7_save_59 (by exact (if_pos h_6).symm) (by exact (if_pos h_6).symm)
    · skip
      have hlt : i < 320 := Nat.lt_of_not_le (fun z => c_18 ((nI_leI (a := 320) (b := i) (by decide) (by omega)).mpr z))
      refine gx_aload_n (q := 0) C dX7_save_21 rfl ?_
      refine gx_get C (i := 3) (isMS_in hWi 0 (Nat.le_of_ble_eq_true rfl)) (isMS_0 hWi) rfl in_X7_save_7 (by decide) fl_X7_save_16 rfl dX7_save_22 ?_
      refine gx_sipush (v := 320) C dX7_save_25 (by decide) ?_
      refine gx_iload_n (q := 1) C dX7_save_28 rfl ?_
      refine gx_imul C dX7_save_29 ?_
      refine gx_iload_n (q := 2) C dX7_save_30 rfl ?_
      refine gx_iadd C dX7_save_31 ?_
      refine gx_aload_n (q := 0) C dX7_save_32 rfl ?_
      refine gx_get C (i := 0) (isMS_in hWi 0 (Nat.le_of_ble_eq_true rfl)) (isMS_0 hWi) rfl in_X7_save_7 (by decide) fl_X7_save_7 rfl dX7_save_33 ?_
      refine gx_iload_n (q := 2) C dX7_save_36 rfl ?_
      refine gx_ialdN C (isMS_in hWi 1 (Nat.le_of_ble_eq_true rfl)) (isMS_a0 hWi) rfl (by omega) (by decide) dX7_save_37 ?_
      refine gx_iastN C hD (isMS_in hWi 3 (Nat.le_of_ble_eq_true rfl)) (isMS_a2 hWi) (nAdd (nMul (nLit 320) n_q) rfl) (by omega) (by decide) dX7_save_38 ?_
      refine gx_Su2 hWi hFi (fun f_2 hW_2 hF_2 => ?_)
      refine gx_iinc C (q := 2) (v := nI (i + 1)) [(2, _), (0, _), (1, _)] dX7_save_39 rfl (nI_inc i) (by decide) rfl ?_
      refine gx_goto (tgt := 14) C dX7_save_42 (by decide) ?_
      exact gx_back [1, 2, 0] (ih (i + 1, _) ⟨by omega, (isMS_same hW_2 (mRow_s y 2 _ _ _ _ _ (by omega) (by rw [Nat.zero_add]; rfl))), hF_2⟩ (by show 320 - (i + 1) < 320 - i; omega)) rfl (by rfl)
  · skip
    have h_6 := bI0.mp c_6
    refine gx_bipush (v := (-2)) C dX7_save_9 (by decide) ?_
    exact gx_iretS C hr hW (gFr_rf (f := f)) dX7_save_11 (by exact ((if_neg (bF h_6)).trans (rfl)).symm) (by exact ((if_neg (bF h_6)).trans (rfl)).symm)
theorem kdN_X7_restore : yX7_restore.cls ≠ "java/lang/invoke/MethodHandle" ∧ yX7_restore.cls ≠ "java/lang/invoke/VarHandle" ∧ (parseMethodDescriptor yX7_restore.desc).map (fun d => d.parameters.length) = some 1 := by decide +kernel
theorem kdV_X7_restore : yX7_restore.cls = RX7 ∧ yX7_restore.cls ≠ "java/lang/invoke/MethodHandle" ∧ yX7_restore.cls ≠ "java/lang/invoke/VarHandle" ∧ (parseMethodDescriptor yX7_restore.desc).map (fun d => d.parameters.length) = some 1 := ⟨rfl, kdN_X7_restore⟩
def mRestore (y : MS) (q : Int32) : MS := if isW q 0 1 = true then (if y.1 3 (cl q) = 0 then y else mRow (mRec y) 0 (va_cpy (y.1 2) (y.1 0) (320 * cl q) 0 320)) else y
def mRestoreV (y : MS) (q : Int32) : Int32 := if isW q 0 1 = true then (if y.1 3 (cl q) = 0 then -5 else va_cpy (y.1 2) (y.1 0) (320 * cl q) 0 320 7) else -2
theorem in_X7_restore_7 : ∀ w ∈ u_ws RX7 TX7 13, w ∈ wsX7_restore := by decide +kernel
theorem fl_X7_restore_19 : Cond.fieldLink RX7 19 (TX7 4).1 (TX7 4).2.1 (TX7 4).2.2.1 ∈ wsX7_restore := by decide +kernel
theorem fl_X7_restore_7 : Cond.fieldLink RX7 7 (TX7 0).1 (TX7 0).2.1 (TX7 0).2.2.1 ∈ wsX7_restore := by decide +kernel
theorem fl_X7_restore_16 : Cond.fieldLink RX7 16 (TX7 3).1 (TX7 3).2.1 (TX7 3).2.2.1 ∈ wsX7_restore := by decide +kernel
abbrev rmX7_restore : Room := { frames := 1, cells := 0, slots := 0, locals := 22 }
set_option maxHeartbeats 4000000 in
set_option maxRecDepth 100000 in
theorem k_X7_restore (l : Launch) {k : gK} {L : List Nat} {f : Nat → va_E} (hL : L.Nodup) {o : Nat → Nat} {y : MS} (hW : isMS k L f o y) (hK : mKK y) (q : Int32) : kM l k L f yX7_restore wsX7_restore rmX7_restore [.ref (o 0), .int q] (mP k L o f (some (.int (mRestoreV y q))) (mRestore y q)) := by
  refine kM_of (cc := cX7_restore) (maxL := 3) (ret := (some .int)) (by decide) rfl (Nat.le_of_ble_eq_true rfl) ?_
  intro p e s m args below meth c C hr
  have hD : gD (fun q => q ∈ L) L := ⟨hL, fun _ h => h⟩
  refine gx_lv [(0, _), (1, _)] [0, 1] rfl ?_
  refine gx_iload_n (q := 1) C dX7_restore_0 rfl ?_
  refine gx_iconst (v := 0) C dX7_restore_1 (by decide) ?_
  refine gx_iconst (v := 1) C dX7_restore_2 (by decide) ?_
  refine gx_callRS C (k_X7_in l (k := k) (L := L) _ _ _) (va_cwS 3 C.2.2.2.2.1 gX7_restore_X7_in rfl rfl rfl kdN_X7_in ⟨Nat.le_of_ble_eq_true rfl, Nat.le_of_ble_eq_true rfl⟩) rfl rfl (Nat.le_of_ble_eq_true rfl) ⟨Nat.le_of_ble_eq_true rfl, Nat.le_of_ble_eq_true rfl⟩ dX7_restore_3 ?_
  refine gx_if_ne (tgt := 12) C dX7_restore_6 (by decide) (fun c_6 => ?_) (fun c_6 => ?_)
  · skip
    have h_6 := bI1.mp c_6
    obtain ⟨n_q, -, b_q⟩ := isW_nat (lo := 0) (hi := 1) (by decide) (by decide) h_6
    refine gx_aload_n (q := 0) C dX7_restore_12 rfl ?_
    refine gx_get C (i := 4) (isMS_in hW 0 (Nat.le_of_ble_eq_true rfl)) (isMS_0 hW) rfl in_X7_restore_7 (by decide) fl_X7_restore_19 rfl dX7_restore_13 ?_
    refine gx_iload_n (q := 1) C dX7_restore_16 rfl ?_
    refine gx_zaldN C (isMS_in hW 4 (Nat.le_of_ble_eq_true rfl)) (isMS_a3 hW) n_q (by omega) (by decide) dX7_restore_17 ?_
    refine gx_if_ne (tgt := 24) C dX7_restore_18 (by decide) (fun c_18 => ?_) (fun c_18 => ?_)
    · skip
      refine gx_aload_n (q := 0) C dX7_restore_24 rfl ?_
      refine gx_callSv C hD (gFr_rf (f := f)) (k_X7_record l hL hW hK) (isMS_in hW 0 (Nat.le_of_ble_eq_true rfl)) (isMS_0 hW) rfl (cwV 0 C.2.2.2.2.1 gX7_restore_X7_record rfl rfl rfl kdV_X7_record ⟨Nat.le_of_ble_eq_true rfl, Nat.le_of_ble_eq_true rfl⟩) rfl rfl (Nat.le_of_ble_eq_true rfl) ⟨Nat.le_of_ble_eq_true rfl, Nat.le_of_ble_eq_true rfl⟩ dX7_restore_25 (fun f_1 hW_1 hF_1 => ?_)
      refine gx_iconst (v := 0) C dX7_restore_28 (by decide) ?_
      refine gx_istore_n C (i := 2) [(2, _), (0, _), (1, _)] dX7_restore_29 rfl (by decide) rfl ?_
      refine gx_loop (σ := Nat × (Nat → va_E)) (fun z => z.2) (fun z => [(0, .ref (o 0)), (1, .int q), (2, .int (nI z.1))]) (fun z => z.1 ≤ 320 ∧ isMS k L z.2 o (mRow (mRec y) 0 (va_cpy (y.1 2) (y.1 0) (320 * cl q) 0 z.1)) ∧ gFr o 6 f z.2) (fun z => 320 - z.1) (0, _) [1, 2, 0] rfl rfl ?_ ?_
      · exact ⟨Nat.zero_le _, (isMS_same hW_1 (mRow_0 (mRec y) 0 _ _ _)), hF_1⟩
      intro ⟨i, fi⟩ ⟨hI, hWi, hFi⟩ ih
      try dsimp only at hI hWi hFi ih ⊢
      refine gx_iload_n (q := 2) C dX7_restore_30 rfl ?_
      refine gx_sipush (v := 320) C dX7_restore_31 (by decide) ?_
      refine gx_icmp_ge (tgt := 61) C dX7_restore_34 (by decide) (fun c_34 => ?_) (fun c_34 => ?_)
      · skip
        have hb : i = 320 := Nat.le_antisymm hI ((nI_leI (a := 320) (b := i) (by decide) (by omega)).mp c_34)
        subst hb
        refine gx_aload_n (q := 0) C dX7_restore_61 rfl ?_
        refine gx_get C (i := 0) (isMS_in hWi 0 (Nat.le_of_ble_eq_true rfl)) (isMS_0 hWi) rfl in_X7_restore_7 (by decide) fl_X7_restore_7 rfl dX7_restore_62 ?_
        refine gx_bipush (v := 7) C dX7_restore_65 (by decide) ?_
        refine gx_ialdN C (isMS_in hWi 1 (Nat.le_of_ble_eq_true rfl)) (isMS_a0 hWi) (nLit 7) (by omega) (by decide) dX7_restore_67 ?_
        exact gx_iretS C hr hWi hFi dX7_restore_68 (by exact ((if_pos h_6).trans (if_neg c_18)).symm) (by exact ((if_pos h_6).trans (if_neg c_18)).symm)
      · skip
        have hlt : i < 320 := Nat.lt_of_not_le (fun z => c_34 ((nI_leI (a := 320) (b := i) (by decide) (by omega)).mpr z))
        refine gx_aload_n (q := 0) C dX7_restore_37 rfl ?_
        refine gx_get C (i := 0) (isMS_in hWi 0 (Nat.le_of_ble_eq_true rfl)) (isMS_0 hWi) rfl in_X7_restore_7 (by decide) fl_X7_restore_7 rfl dX7_restore_38 ?_
        refine gx_iload_n (q := 2) C dX7_restore_41 rfl ?_
        refine gx_aload_n (q := 0) C dX7_restore_42 rfl ?_
        refine gx_get C (i := 3) (isMS_in hWi 0 (Nat.le_of_ble_eq_true rfl)) (isMS_0 hWi) rfl in_X7_restore_7 (by decide) fl_X7_restore_16 rfl dX7_restore_43 ?_
        refine gx_sipush (v := 320) C dX7_restore_46 (by decide) ?_
        refine gx_iload_n (q := 1) C dX7_restore_49 rfl ?_
        refine gx_imul C dX7_restore_50 ?_
        refine gx_iload_n (q := 2) C dX7_restore_51 rfl ?_
        refine gx_iadd C dX7_restore_52 ?_
        refine gx_ialdN C (isMS_in hWi 3 (Nat.le_of_ble_eq_true rfl)) (isMS_a2 hWi) (nAdd (nMul (nLit 320) n_q) rfl) (by omega) (by decide) dX7_restore_53 ?_
        refine gx_iastN C hD (isMS_in hWi 1 (Nat.le_of_ble_eq_true rfl)) (isMS_a0 hWi) rfl (by omega) (by decide) dX7_restore_54 ?_
        refine gx_Su0 hWi hFi (fun f_2 hW_2 hF_2 => ?_)
        refine gx_iinc C (q := 2) (v := nI (i + 1)) [(2, _), (0, _), (1, _)] dX7_restore_55 rfl (nI_inc i) (by decide) rfl ?_
        refine gx_goto (tgt := 30) C dX7_restore_58 (by decide) ?_
        exact gx_back [1, 2, 0] (ih (i + 1, _) ⟨by omega, (isMS_same hW_2 (mRow_s (mRec y) 0 _ _ _ _ _ (by omega) rfl)), hF_2⟩ (by show 320 - (i + 1) < 320 - i; omega)) rfl (by rfl)
    · skip
      refine gx_bipush (v := (-5)) C dX7_restore_21 (by decide) ?_
      exact gx_iretS C hr hW (gFr_rf (f := f)) dX7_restore_23 (by exact ((if_pos h_6).trans ((if_pos c_18).trans (rfl))).symm) (by exact ((if_pos h_6).trans ((if_pos c_18).trans (rfl))).symm)
  · skip
    have h_6 := bI0.mp c_6
    refine gx_bipush (v := (-2)) C dX7_restore_9 (by decide) ?_
    exact gx_iretS C hr hW (gFr_rf (f := f)) dX7_restore_11 (by exact ((if_neg (bF h_6)).trans (rfl)).symm) (by exact ((if_neg (bF h_6)).trans (rfl)).symm)
theorem kdN_X7_set : yX7_set.cls ≠ "java/lang/invoke/MethodHandle" ∧ yX7_set.cls ≠ "java/lang/invoke/VarHandle" ∧ (parseMethodDescriptor yX7_set.desc).map (fun d => d.parameters.length) = some 2 := by decide +kernel
theorem kdV_X7_set : yX7_set.cls = RX7 ∧ yX7_set.cls ≠ "java/lang/invoke/MethodHandle" ∧ yX7_set.cls ≠ "java/lang/invoke/VarHandle" ∧ (parseMethodDescriptor yX7_set.desc).map (fun d => d.parameters.length) = some 2 := ⟨rfl, kdN_X7_set⟩
def vX7_set (y : MS) (st : Int32) (v : Int32) : Int32 := (if (isW st 0 3) = true then (if (isW v (vX7_least st) (vX7_most st)) = true then ((mRec y).1 0 (2 + (cl st))) else (-2)) else (-2))
def wX7_set (y : MS) (st : Int32) (v : Int32) : MS := (if (isW st 0 3) = true then (if (isW v (vX7_least st) (vX7_most st)) = true then (mRow (mRec y) 0 (upd ((mRec y).1 0) (2 + (cl st)) v)) else y) else y)
theorem in_X7_set_7 : ∀ w ∈ u_ws RX7 TX7 13, w ∈ wsX7_set := by decide +kernel
theorem fl_X7_set_7 : Cond.fieldLink RX7 7 (TX7 0).1 (TX7 0).2.1 (TX7 0).2.2.1 ∈ wsX7_set := by decide +kernel
abbrev rmX7_set : Room := { frames := 1, cells := 0, slots := 0, locals := 22 }
set_option maxHeartbeats 4000000 in
set_option maxRecDepth 100000 in
theorem k_X7_set (l : Launch) {k : gK} {L : List Nat} {f : Nat → va_E} (hL : L.Nodup) {o : Nat → Nat} {y : MS} (hW : isMS k L f o y) (hK : mKK y) (st : Int32) (v : Int32) : kM l k L f yX7_set wsX7_set rmX7_set [.ref (o 0), .int st, .int v] (mP k L o f (some (.int (vX7_set y st v))) (wX7_set y st v)) := by
  refine kM_of (cc := cX7_set) (maxL := 4) (ret := (some .int)) (by decide) rfl (Nat.le_of_ble_eq_true rfl) ?_
  intro p e s m args below meth c C hr
  have hD : gD (fun q => q ∈ L) L := ⟨hL, fun _ h => h⟩
  refine gx_lv [(0, _), (1, _), (2, _)] [0, 1, 2] rfl ?_
  refine gx_iload_n (q := 1) C dX7_set_0 rfl ?_
  refine gx_iconst (v := 0) C dX7_set_1 (by decide) ?_
  refine gx_iconst (v := 3) C dX7_set_2 (by decide) ?_
  refine gx_callRS C (k_X7_in l (k := k) (L := L) _ _ _) (va_cwS 3 C.2.2.2.2.1 gX7_set_X7_in rfl rfl rfl kdN_X7_in ⟨Nat.le_of_ble_eq_true rfl, Nat.le_of_ble_eq_true rfl⟩) rfl rfl (Nat.le_of_ble_eq_true rfl) ⟨Nat.le_of_ble_eq_true rfl, Nat.le_of_ble_eq_true rfl⟩ dX7_set_3 ?_
  refine gx_if_eq (tgt := 24) C dX7_set_6 (by decide) (fun c_6 => ?_) (fun c_6 => ?_)
  · skip
    have h_6 := bI0.mp c_6
    refine gx_bipush (v := (-2)) C dX7_set_24 (by decide) ?_
    exact gx_iretS C hr hW (gFr_rf (f := f)) dX7_set_26 ((if_neg (bF h_6)).trans (rfl)).symm ((if_neg (bF h_6)).trans (rfl)).symm
  · skip
    have h_6 := bI1.mp c_6
    obtain ⟨n_st, -, b_st⟩ := isW_nat (lo := 0) (hi := 3) (by decide) (by decide) h_6
    refine gx_iload_n (q := 2) C dX7_set_9 rfl ?_
    refine gx_iload_n (q := 1) C dX7_set_10 rfl ?_
    refine gx_callRS C (k_X7_least l (k := k) (L := L) _) (va_cwS 1 C.2.2.2.2.1 gX7_set_X7_least rfl rfl rfl kdN_X7_least ⟨Nat.le_of_ble_eq_true rfl, Nat.le_of_ble_eq_true rfl⟩) rfl rfl (Nat.le_of_ble_eq_true rfl) ⟨Nat.le_of_ble_eq_true rfl, Nat.le_of_ble_eq_true rfl⟩ dX7_set_11 ?_
    refine gx_iload_n (q := 1) C dX7_set_14 rfl ?_
    refine gx_callRS C (k_X7_most l (k := k) (L := L) _) (va_cwS 1 C.2.2.2.2.1 gX7_set_X7_most rfl rfl rfl kdN_X7_most ⟨Nat.le_of_ble_eq_true rfl, Nat.le_of_ble_eq_true rfl⟩) rfl rfl (Nat.le_of_ble_eq_true rfl) ⟨Nat.le_of_ble_eq_true rfl, Nat.le_of_ble_eq_true rfl⟩ dX7_set_15 ?_
    refine gx_callRS C (k_X7_in l (k := k) (L := L) _ _ _) (va_cwS 3 C.2.2.2.2.1 gX7_set_X7_in rfl rfl rfl kdN_X7_in ⟨Nat.le_of_ble_eq_true rfl, Nat.le_of_ble_eq_true rfl⟩) rfl rfl (Nat.le_of_ble_eq_true rfl) ⟨Nat.le_of_ble_eq_true rfl, Nat.le_of_ble_eq_true rfl⟩ dX7_set_18 ?_
    refine gx_if_ne (tgt := 27) C dX7_set_21 (by decide) (fun c_21 => ?_) (fun c_21 => ?_)
    · skip
      have h_21 := bI1.mp c_21
      refine gx_aload_n (q := 0) C dX7_set_27 rfl ?_
      refine gx_callSv C hD (gFr_rf (f := f)) (k_X7_record l hL hW hK) (isMS_in hW 0 (Nat.le_of_ble_eq_true rfl)) (isMS_0 hW) rfl (cwV 0 C.2.2.2.2.1 gX7_set_X7_record rfl rfl rfl kdV_X7_record ⟨Nat.le_of_ble_eq_true rfl, Nat.le_of_ble_eq_true rfl⟩) rfl rfl (Nat.le_of_ble_eq_true rfl) ⟨Nat.le_of_ble_eq_true rfl, Nat.le_of_ble_eq_true rfl⟩ dX7_set_28 (fun f_1 hW_1 hF_1 => ?_)
      refine gx_aload_n (q := 0) C dX7_set_31 rfl ?_
      refine gx_get C (i := 0) (isMS_in hW_1 0 (Nat.le_of_ble_eq_true rfl)) (isMS_0 hW_1) rfl in_X7_set_7 (by decide) fl_X7_set_7 rfl dX7_set_32 ?_
      refine gx_iconst (v := 2) C dX7_set_35 (by decide) ?_
      refine gx_iload_n (q := 1) C dX7_set_36 rfl ?_
      refine gx_iadd C dX7_set_37 ?_
      refine gx_ialdN C (isMS_in hW_1 1 (Nat.le_of_ble_eq_true rfl)) (isMS_a0 hW_1) (nAdd (nLit 2) n_st) (by omega) (by decide) dX7_set_38 ?_
      refine gx_istore_n C (i := 3) [(3, _), (0, _), (1, _), (2, _)] dX7_set_39 rfl (by decide) rfl ?_
      refine gx_aload_n (q := 1) C dX7_set_40 rfl ?_
      refine gx_get C (i := 0) (isMS_in hW_1 0 (Nat.le_of_ble_eq_true rfl)) (isMS_0 hW_1) rfl in_X7_set_7 (by decide) fl_X7_set_7 rfl dX7_set_41 ?_
      refine gx_iconst (v := 2) C dX7_set_44 (by decide) ?_
      refine gx_iload_n (q := 2) C dX7_set_45 rfl ?_
      refine gx_iadd C dX7_set_46 ?_
      refine gx_iload_n (q := 3) C dX7_set_47 rfl ?_
      refine gx_iastN C hD (isMS_in hW_1 1 (Nat.le_of_ble_eq_true rfl)) (isMS_a0 hW_1) (nAdd (nLit 2) n_st) (by omega) (by decide) dX7_set_48 ?_
      refine gx_Su0 hW_1 hF_1 (fun f_2 hW_2 hF_2 => ?_)
      refine gx_iload_n (q := 0) C dX7_set_49 rfl ?_
      exact gx_iretS C hr hW_2 hF_2 dX7_set_50 ((if_pos h_6).trans ((if_pos h_21).trans (rfl))).symm ((if_pos h_6).trans ((if_pos h_21).trans (rfl))).symm
    · skip
      have h_21 := bI0.mp c_21
      refine gx_bipush (v := (-2)) C dX7_set_24 (by decide) ?_
      exact gx_iretS C hr hW (gFr_rf (f := f)) dX7_set_26 ((if_pos h_6).trans ((if_neg (bF h_21)).trans (rfl))).symm ((if_pos h_6).trans ((if_neg (bF h_21)).trans (rfl))).symm
theorem kdN_X7_noPupil : yX7_noPupil.cls ≠ "java/lang/invoke/MethodHandle" ∧ yX7_noPupil.cls ≠ "java/lang/invoke/VarHandle" ∧ (parseMethodDescriptor yX7_noPupil.desc).map (fun d => d.parameters.length) = some 0 := by decide +kernel
theorem kdV_X7_noPupil : yX7_noPupil.cls = RX7 ∧ yX7_noPupil.cls ≠ "java/lang/invoke/MethodHandle" ∧ yX7_noPupil.cls ≠ "java/lang/invoke/VarHandle" ∧ (parseMethodDescriptor yX7_noPupil.desc).map (fun d => d.parameters.length) = some 0 := ⟨rfl, kdN_X7_noPupil⟩
def vX7_noPupil (y : MS)  : Int32 := (if (y.1 0 (6)) = 10 then (-4) else 0)
theorem in_X7_noPupil_7 : ∀ w ∈ u_ws RX7 TX7 13, w ∈ wsX7_noPupil := by decide +kernel
theorem fl_X7_noPupil_7 : Cond.fieldLink RX7 7 (TX7 0).1 (TX7 0).2.1 (TX7 0).2.2.1 ∈ wsX7_noPupil := by decide +kernel
abbrev rmX7_noPupil : Room := { frames := 0, cells := 0, slots := 0, locals := 0 }
set_option maxHeartbeats 4000000 in
set_option maxRecDepth 100000 in
theorem k_X7_noPupil (l : Launch) {k : gK} {L : List Nat} {f : Nat → va_E} {o : Nat → Nat} {y : MS} (hW : isMS k L f o y)  : kR l k L f yX7_noPupil wsX7_noPupil rmX7_noPupil [.ref (o 0)] (.int (vX7_noPupil y )) := by
  refine kR_of (cc := cX7_noPupil) (maxL := 1) (ret := (some .int)) (by decide) rfl (Nat.le_of_ble_eq_true rfl) ?_
  intro p e s m args below meth c C hr
  refine gx_lv [(0, _)] [0] rfl ?_
  refine gx_aload_n (q := 0) C dX7_noPupil_0 rfl ?_
  refine gx_get C (i := 0) (isMS_in hW 0 (Nat.le_of_ble_eq_true rfl)) (isMS_0 hW) rfl in_X7_noPupil_7 (by decide) fl_X7_noPupil_7 rfl dX7_noPupil_1 ?_
  refine gx_bipush (v := 6) C dX7_noPupil_4 (by decide) ?_
  refine gx_ialdN C (isMS_in hW 1 (Nat.le_of_ble_eq_true rfl)) (isMS_a0 hW) (nLit 6) (by omega) (by decide) dX7_noPupil_6 ?_
  refine gx_bipush (v := 10) C dX7_noPupil_7 (by decide) ?_
  refine gx_icmp_ne (tgt := 17) C dX7_noPupil_9 (by decide) (fun c_9 => ?_) (fun c_9 => ?_)
  · skip
    refine gx_iconst (v := 0) C dX7_noPupil_17 (by decide) ?_
    exact gx_iretR C rfl hr dX7_noPupil_18 (congrArg Value.int ((if_neg c_9).trans (rfl)).symm)
  · skip
    refine gx_bipush (v := (-4)) C dX7_noPupil_12 (by decide) ?_
    refine gx_goto (tgt := 18) C dX7_noPupil_14 (by decide) ?_
    exact gx_iretR C rfl hr dX7_noPupil_18 (congrArg Value.int ((if_pos c_9).trans (rfl)).symm)
theorem kdN_X7_doPupil : yX7_doPupil.cls ≠ "java/lang/invoke/MethodHandle" ∧ yX7_doPupil.cls ≠ "java/lang/invoke/VarHandle" ∧ (parseMethodDescriptor yX7_doPupil.desc).map (fun d => d.parameters.length) = some 0 := by decide +kernel
theorem kdV_X7_doPupil : yX7_doPupil.cls = RX7 ∧ yX7_doPupil.cls ≠ "java/lang/invoke/MethodHandle" ∧ yX7_doPupil.cls ≠ "java/lang/invoke/VarHandle" ∧ (parseMethodDescriptor yX7_doPupil.desc).map (fun d => d.parameters.length) = some 0 := ⟨rfl, kdN_X7_doPupil⟩
def vX7_doPupil (y : MS)  : Int32 := (((mRow y 0 (upd (y.1 0) (6) ((y.1 0 (6)) + 1))).1 0 (6)) - 1)
def wX7_doPupil (y : MS)  : MS := (mRow y 0 (upd (y.1 0) (6) ((y.1 0 (6)) + 1)))
theorem in_X7_doPupil_7 : ∀ w ∈ u_ws RX7 TX7 13, w ∈ wsX7_doPupil := by decide +kernel
theorem fl_X7_doPupil_7 : Cond.fieldLink RX7 7 (TX7 0).1 (TX7 0).2.1 (TX7 0).2.2.1 ∈ wsX7_doPupil := by decide +kernel
abbrev rmX7_doPupil : Room := { frames := 0, cells := 0, slots := 0, locals := 0 }
set_option maxHeartbeats 4000000 in
set_option maxRecDepth 100000 in
theorem k_X7_doPupil (l : Launch) {k : gK} {L : List Nat} {f : Nat → va_E} (hL : L.Nodup) {o : Nat → Nat} {y : MS} (hW : isMS k L f o y)  : kM l k L f yX7_doPupil wsX7_doPupil rmX7_doPupil [.ref (o 0)] (mP k L o f (some (.int (vX7_doPupil y ))) (wX7_doPupil y )) := by
  refine kM_of (cc := cX7_doPupil) (maxL := 1) (ret := (some .int)) (by decide) rfl (Nat.le_of_ble_eq_true rfl) ?_
  intro p e s m args below meth c C hr
  have hD : gD (fun q => q ∈ L) L := ⟨hL, fun _ h => h⟩
  refine gx_lv [(0, _)] [0] rfl ?_
  refine gx_aload_n (q := 0) C dX7_doPupil_0 rfl ?_
  refine gx_get C (i := 0) (isMS_in hW 0 (Nat.le_of_ble_eq_true rfl)) (isMS_0 hW) rfl in_X7_doPupil_7 (by decide) fl_X7_doPupil_7 rfl dX7_doPupil_1 ?_
  refine gx_bipush (v := 6) C dX7_doPupil_4 (by decide) ?_
  refine gx_dup2 C dX7_doPupil_6 rfl rfl ?_
  refine gx_ialdN C (isMS_in hW 1 (Nat.le_of_ble_eq_true rfl)) (isMS_a0 hW) (nLit 6) (by omega) (by decide) dX7_doPupil_7 ?_
  refine gx_iconst (v := 1) C dX7_doPupil_8 (by decide) ?_
  refine gx_iadd C dX7_doPupil_9 ?_
  refine gx_iastN C hD (isMS_in hW 1 (Nat.le_of_ble_eq_true rfl)) (isMS_a0 hW) (nLit 6) (by omega) (by decide) dX7_doPupil_10 ?_
  refine gx_Su0 hW (gFr_rf (f := f)) (fun f_1 hW_1 hF_1 => ?_)
  refine gx_aload_n (q := 0) C dX7_doPupil_11 rfl ?_
  refine gx_get C (i := 0) (isMS_in hW_1 0 (Nat.le_of_ble_eq_true rfl)) (isMS_0 hW_1) rfl in_X7_doPupil_7 (by decide) fl_X7_doPupil_7 rfl dX7_doPupil_12 ?_
  refine gx_bipush (v := 6) C dX7_doPupil_15 (by decide) ?_
  refine gx_ialdN C (isMS_in hW_1 1 (Nat.le_of_ble_eq_true rfl)) (isMS_a0 hW_1) (nLit 6) (by omega) (by decide) dX7_doPupil_17 ?_
  refine gx_iconst (v := 1) C dX7_doPupil_18 (by decide) ?_
  refine gx_isub C dX7_doPupil_19 ?_
  exact gx_iretS C hr hW_1 hF_1 dX7_doPupil_20 (rfl).symm (rfl).symm
theorem kdN_X7_pupil : yX7_pupil.cls ≠ "java/lang/invoke/MethodHandle" ∧ yX7_pupil.cls ≠ "java/lang/invoke/VarHandle" ∧ (parseMethodDescriptor yX7_pupil.desc).map (fun d => d.parameters.length) = some 0 := by decide +kernel
theorem kdV_X7_pupil : yX7_pupil.cls = RX7 ∧ yX7_pupil.cls ≠ "java/lang/invoke/MethodHandle" ∧ yX7_pupil.cls ≠ "java/lang/invoke/VarHandle" ∧ (parseMethodDescriptor yX7_pupil.desc).map (fun d => d.parameters.length) = some 0 := ⟨rfl, kdN_X7_pupil⟩
def vX7_pupil (y : MS)  : Int32 := (if 0 ≤ (vX7_noPupil y ) then (vX7_doPupil (mRec y) ) else (vX7_noPupil y ))
def wX7_pupil (y : MS)  : MS := (if 0 ≤ (vX7_noPupil y ) then (wX7_doPupil (mRec y) ) else y)
abbrev rmX7_pupil : Room := { frames := 1, cells := 0, slots := 0, locals := 21 }
set_option maxHeartbeats 4000000 in
set_option maxRecDepth 100000 in
theorem k_X7_pupil (l : Launch) {k : gK} {L : List Nat} {f : Nat → va_E} (hL : L.Nodup) {o : Nat → Nat} {y : MS} (hW : isMS k L f o y) (hK : mKK y)  : kM l k L f yX7_pupil wsX7_pupil rmX7_pupil [.ref (o 0)] (mP k L o f (some (.int (vX7_pupil y ))) (wX7_pupil y )) := by
  refine kM_of (cc := cX7_pupil) (maxL := 2) (ret := (some .int)) (by decide) rfl (Nat.le_of_ble_eq_true rfl) ?_
  intro p e s m args below meth c C hr
  have hD : gD (fun q => q ∈ L) L := ⟨hL, fun _ h => h⟩
  refine gx_lv [(0, _)] [0] rfl ?_
  refine gx_aload_n (q := 0) C dX7_pupil_0 rfl ?_
  refine gx_callR C (k_X7_noPupil l hW) (isMS_in hW 0 (Nat.le_of_ble_eq_true rfl)) (isMS_0 hW) rfl (cwV 0 C.2.2.2.2.1 gX7_pupil_X7_noPupil rfl rfl rfl kdV_X7_noPupil ⟨Nat.le_of_ble_eq_true rfl, Nat.le_of_ble_eq_true rfl⟩) rfl rfl (Nat.le_of_ble_eq_true rfl) ⟨Nat.le_of_ble_eq_true rfl, Nat.le_of_ble_eq_true rfl⟩ dX7_pupil_1 ?_
  refine gx_istore_n C (i := 1) [(1, _), (0, _)] dX7_pupil_4 rfl (by decide) rfl ?_
  refine gx_iload_n (q := 0) C dX7_pupil_5 rfl ?_
  refine gx_if_ge (tgt := 11) C dX7_pupil_6 (by decide) (fun c_6 => ?_) (fun c_6 => ?_)
  · skip
    refine gx_aload_n (q := 1) C dX7_pupil_11 rfl ?_
    refine gx_callSv C hD (gFr_rf (f := f)) (k_X7_record l hL hW hK) (isMS_in hW 0 (Nat.le_of_ble_eq_true rfl)) (isMS_0 hW) rfl (cwV 0 C.2.2.2.2.1 gX7_pupil_X7_record rfl rfl rfl kdV_X7_record ⟨Nat.le_of_ble_eq_true rfl, Nat.le_of_ble_eq_true rfl⟩) rfl rfl (Nat.le_of_ble_eq_true rfl) ⟨Nat.le_of_ble_eq_true rfl, Nat.le_of_ble_eq_true rfl⟩ dX7_pupil_12 (fun f_1 hW_1 hF_1 => ?_)
    refine gx_aload_n (q := 1) C dX7_pupil_15 rfl ?_
    refine gx_callSi C hD hF_1 (k_X7_doPupil l hL hW_1) (isMS_in hW_1 0 (Nat.le_of_ble_eq_true rfl)) (isMS_0 hW_1) rfl (cwV 0 C.2.2.2.2.1 gX7_pupil_X7_doPupil rfl rfl rfl kdV_X7_doPupil ⟨Nat.le_of_ble_eq_true rfl, Nat.le_of_ble_eq_true rfl⟩) rfl rfl (Nat.le_of_ble_eq_true rfl) ⟨Nat.le_of_ble_eq_true rfl, Nat.le_of_ble_eq_true rfl⟩ dX7_pupil_16 (fun f_2 hW_2 hF_2 => ?_)
    exact gx_iretS C hr hW_2 hF_2 dX7_pupil_19 ((if_pos c_6).trans (rfl)).symm ((if_pos c_6).trans (rfl)).symm
  · skip
    refine gx_iload_n (q := 0) C dX7_pupil_9 rfl ?_
    exact gx_iretS C hr hW (gFr_rf (f := f)) dX7_pupil_10 ((if_neg c_6).trans (rfl)).symm ((if_neg c_6).trans (rfl)).symm
theorem kdN_X7_noBook : yX7_noBook.cls ≠ "java/lang/invoke/MethodHandle" ∧ yX7_noBook.cls ≠ "java/lang/invoke/VarHandle" ∧ (parseMethodDescriptor yX7_noBook.desc).map (fun d => d.parameters.length) = some 3 := by decide +kernel
theorem kdV_X7_noBook : yX7_noBook.cls = RX7 ∧ yX7_noBook.cls ≠ "java/lang/invoke/MethodHandle" ∧ yX7_noBook.cls ≠ "java/lang/invoke/VarHandle" ∧ (parseMethodDescriptor yX7_noBook.desc).map (fun d => d.parameters.length) = some 3 := ⟨rfl, kdN_X7_noBook⟩
def vX7_noBook (y : MS) (q : Int32) (wh : Int32) (ah : Int32) : Int32 := (if (vX7_isPupil y q) = true then (if (vX7_isWheel wh) = true then (if (vX7_isAhead ah) = true then (if 0 ≤ (y.1 0 (215 + 21 * (cl wh) + (cl ah))) then (-5) else (if (zWh (y.1 0) q (cl ah) 5) < 0 then 0 else (-5))) else (-2)) else (-1)) else (-1))
abbrev rmX7_noBook : Room := { frames := 2, cells := 0, slots := 0, locals := 46 }
set_option maxHeartbeats 4000000 in
set_option maxRecDepth 100000 in
theorem k_X7_noBook (l : Launch) {k : gK} {L : List Nat} {f : Nat → va_E} {o : Nat → Nat} {y : MS} (hW : isMS k L f o y) (q : Int32) (wh : Int32) (ah : Int32) : kR l k L f yX7_noBook wsX7_noBook rmX7_noBook [.ref (o 0), .int q, .int wh, .int ah] (.int (vX7_noBook y q wh ah)) := by
  refine kR_of (cc := cX7_noBook) (maxL := 4) (ret := (some .int)) (by decide) rfl (Nat.le_of_ble_eq_true rfl) ?_
  intro p e s m args below meth c C hr
  refine gx_lv [(0, _), (1, _), (2, _), (3, _)] [0, 1, 2, 3] rfl ?_
  refine gx_aload_n (q := 0) C dX7_noBook_0 rfl ?_
  refine gx_iload_n (q := 1) C dX7_noBook_1 rfl ?_
  refine gx_callR C (k_X7_isPupil l hW _) (isMS_in hW 0 (Nat.le_of_ble_eq_true rfl)) (isMS_0 hW) rfl (cwV 1 C.2.2.2.2.1 gX7_noBook_X7_isPupil rfl rfl rfl kdV_X7_isPupil ⟨Nat.le_of_ble_eq_true rfl, Nat.le_of_ble_eq_true rfl⟩) rfl rfl (Nat.le_of_ble_eq_true rfl) ⟨Nat.le_of_ble_eq_true rfl, Nat.le_of_ble_eq_true rfl⟩ dX7_noBook_2 ?_
  refine gx_if_eq (tgt := 15) C dX7_noBook_5 (by decide) (fun c_5 => ?_) (fun c_5 => ?_)
  · skip
    have h_5 := bI0.mp c_5
    refine gx_iconst (v := (-1)) C dX7_noBook_15 (by decide) ?_
    exact gx_iretR C rfl hr dX7_noBook_16 (congrArg Value.int ((if_neg (bF h_5)).trans (rfl)).symm)
  · skip
    have h_5 := bI1.mp c_5
    refine gx_iload_n (q := 2) C dX7_noBook_8 rfl ?_
    refine gx_callRS C (k_X7_isWheel l (k := k) (L := L) _) (va_cwS 1 C.2.2.2.2.1 gX7_noBook_X7_isWheel rfl rfl rfl kdN_X7_isWheel ⟨Nat.le_of_ble_eq_true rfl, Nat.le_of_ble_eq_true rfl⟩) rfl rfl (Nat.le_of_ble_eq_true rfl) ⟨Nat.le_of_ble_eq_true rfl, Nat.le_of_ble_eq_true rfl⟩ dX7_noBook_9 ?_
    refine gx_if_ne (tgt := 17) C dX7_noBook_12 (by decide) (fun c_12 => ?_) (fun c_12 => ?_)
    · skip
      have h_12 := bI1.mp c_12
      refine gx_iload_n (q := 3) C dX7_noBook_17 rfl ?_
      refine gx_callRS C (k_X7_isAhead l (k := k) (L := L) _) (va_cwS 1 C.2.2.2.2.1 gX7_noBook_X7_isAhead rfl rfl rfl kdN_X7_isAhead ⟨Nat.le_of_ble_eq_true rfl, Nat.le_of_ble_eq_true rfl⟩) rfl rfl (Nat.le_of_ble_eq_true rfl) ⟨Nat.le_of_ble_eq_true rfl, Nat.le_of_ble_eq_true rfl⟩ dX7_noBook_18 ?_
      refine gx_if_ne (tgt := 27) C dX7_noBook_21 (by decide) (fun c_21 => ?_) (fun c_21 => ?_)
      · skip
        have h_21 := bI1.mp c_21
        obtain ⟨n_wh, b_wh⟩ := mWheel h_12
        obtain ⟨n_ah, b_ah⟩ := mAhead h_21
        refine gx_aload_n (q := 0) C dX7_noBook_27 rfl ?_
        refine gx_iload_n (q := 2) C dX7_noBook_28 rfl ?_
        refine gx_iload_n (q := 3) C dX7_noBook_29 rfl ?_
        refine gx_callR C (k_X7_bookedBy l hW _ _ (i := (cl wh)) n_wh (by omega) (j := (cl ah)) n_ah (by omega)) (isMS_in hW 0 (Nat.le_of_ble_eq_true rfl)) (isMS_0 hW) rfl (cwV 2 C.2.2.2.2.1 gX7_noBook_X7_bookedBy rfl rfl rfl kdV_X7_bookedBy ⟨Nat.le_of_ble_eq_true rfl, Nat.le_of_ble_eq_true rfl⟩) rfl rfl (Nat.le_of_ble_eq_true rfl) ⟨Nat.le_of_ble_eq_true rfl, Nat.le_of_ble_eq_true rfl⟩ dX7_noBook_30 ?_
        refine gx_if_ge (tgt := 45) C dX7_noBook_33 (by decide) (fun c_33 => ?_) (fun c_33 => ?_)
        · skip
          refine gx_bipush (v := (-5)) C dX7_noBook_45 (by decide) ?_
          refine gx_goto (tgt := 51) C dX7_noBook_47 (by decide) ?_
          exact gx_iretR C rfl hr dX7_noBook_51 (congrArg Value.int ((if_pos h_5).trans ((if_pos h_12).trans ((if_pos h_21).trans ((if_pos c_33).trans (rfl))))).symm)
        · skip
          refine gx_aload_n (q := 0) C dX7_noBook_36 rfl ?_
          refine gx_iload_n (q := 1) C dX7_noBook_37 rfl ?_
          refine gx_iload_n (q := 3) C dX7_noBook_38 rfl ?_
          refine gx_callR C (k_X7_wheelOf l hW _ _ (j := (cl ah)) n_ah (by omega)) (isMS_in hW 0 (Nat.le_of_ble_eq_true rfl)) (isMS_0 hW) rfl (cwV 2 C.2.2.2.2.1 gX7_noBook_X7_wheelOf rfl rfl rfl kdV_X7_wheelOf ⟨Nat.le_of_ble_eq_true rfl, Nat.le_of_ble_eq_true rfl⟩) rfl rfl (Nat.le_of_ble_eq_true rfl) ⟨Nat.le_of_ble_eq_true rfl, Nat.le_of_ble_eq_true rfl⟩ dX7_noBook_39 ?_
          refine gx_if_lt (tgt := 50) C dX7_noBook_42 (by decide) (fun c_42 => ?_) (fun c_42 => ?_)
          · skip
            refine gx_iconst (v := 0) C dX7_noBook_50 (by decide) ?_
            exact gx_iretR C rfl hr dX7_noBook_51 (congrArg Value.int ((if_pos h_5).trans ((if_pos h_12).trans ((if_pos h_21).trans ((if_neg c_33).trans ((if_pos c_42).trans (rfl)))))).symm)
          · skip
            refine gx_bipush (v := (-5)) C dX7_noBook_45 (by decide) ?_
            refine gx_goto (tgt := 51) C dX7_noBook_47 (by decide) ?_
            exact gx_iretR C rfl hr dX7_noBook_51 (congrArg Value.int ((if_pos h_5).trans ((if_pos h_12).trans ((if_pos h_21).trans ((if_neg c_33).trans ((if_neg c_42).trans (rfl)))))).symm)
      · skip
        have h_21 := bI0.mp c_21
        refine gx_bipush (v := (-2)) C dX7_noBook_24 (by decide) ?_
        exact gx_iretR C rfl hr dX7_noBook_26 (congrArg Value.int ((if_pos h_5).trans ((if_pos h_12).trans ((if_neg (bF h_21)).trans (rfl)))).symm)
    · skip
      have h_12 := bI0.mp c_12
      refine gx_iconst (v := (-1)) C dX7_noBook_15 (by decide) ?_
      exact gx_iretR C rfl hr dX7_noBook_16 (congrArg Value.int ((if_pos h_5).trans ((if_neg (bF h_12)).trans (rfl))).symm)
theorem kdN_X7_doBook : yX7_doBook.cls ≠ "java/lang/invoke/MethodHandle" ∧ yX7_doBook.cls ≠ "java/lang/invoke/VarHandle" ∧ (parseMethodDescriptor yX7_doBook.desc).map (fun d => d.parameters.length) = some 3 := by decide +kernel
theorem kdV_X7_doBook : yX7_doBook.cls = RX7 ∧ yX7_doBook.cls ≠ "java/lang/invoke/MethodHandle" ∧ yX7_doBook.cls ≠ "java/lang/invoke/VarHandle" ∧ (parseMethodDescriptor yX7_doBook.desc).map (fun d => d.parameters.length) = some 3 := ⟨rfl, kdN_X7_doBook⟩
def vX7_doBook (y : MS) (q : Int32) (wh : Int32) (ah : Int32) (i : Nat) (j : Nat) : Int32 := (((mRow y 0 (upd (y.1 0) (215 + (21 * i) + j) q)).1 0 (0)) + ah)
def wX7_doBook (y : MS) (q : Int32) (wh : Int32) (ah : Int32) (i : Nat) (j : Nat) : MS := (mRow y 0 (upd (y.1 0) (215 + (21 * i) + j) q))
theorem in_X7_doBook_7 : ∀ w ∈ u_ws RX7 TX7 13, w ∈ wsX7_doBook := by decide +kernel
theorem fl_X7_doBook_7 : Cond.fieldLink RX7 7 (TX7 0).1 (TX7 0).2.1 (TX7 0).2.2.1 ∈ wsX7_doBook := by decide +kernel
abbrev rmX7_doBook : Room := { frames := 0, cells := 0, slots := 0, locals := 0 }
set_option maxHeartbeats 4000000 in
set_option maxRecDepth 100000 in
theorem k_X7_doBook (l : Launch) {k : gK} {L : List Nat} {f : Nat → va_E} (hL : L.Nodup) {o : Nat → Nat} {y : MS} (hW : isMS k L f o y) (q : Int32) (wh : Int32) (ah : Int32) {i : Nat} (hwh : wh = nI i) (hwh2 : i < 5) {j : Nat} (hah : ah = nI j) (hah2 : j < 21) : kM l k L f yX7_doBook wsX7_doBook rmX7_doBook [.ref (o 0), .int q, .int wh, .int ah] (mP k L o f (some (.int (vX7_doBook y q wh ah i j))) (wX7_doBook y q wh ah i j)) := by
  refine kM_of (cc := cX7_doBook) (maxL := 4) (ret := (some .int)) (by decide) rfl (Nat.le_of_ble_eq_true rfl) ?_
  intro p e s m args below meth c C hr
  have hD : gD (fun q => q ∈ L) L := ⟨hL, fun _ h => h⟩
  refine gx_lv [(0, _), (1, _), (2, _), (3, _)] [0, 1, 2, 3] rfl ?_
  refine gx_aload_n (q := 0) C dX7_doBook_0 rfl ?_
  refine gx_get C (i := 0) (isMS_in hW 0 (Nat.le_of_ble_eq_true rfl)) (isMS_0 hW) rfl in_X7_doBook_7 (by decide) fl_X7_doBook_7 rfl dX7_doBook_1 ?_
  refine gx_sipush (v := 215) C dX7_doBook_4 (by decide) ?_
  refine gx_bipush (v := 21) C dX7_doBook_7 (by decide) ?_
  refine gx_iload_n (q := 2) C dX7_doBook_9 rfl ?_
  refine gx_imul C dX7_doBook_10 ?_
  refine gx_iadd C dX7_doBook_11 ?_
  refine gx_iload_n (q := 3) C dX7_doBook_12 rfl ?_
  refine gx_iadd C dX7_doBook_13 ?_
  refine gx_iload_n (q := 1) C dX7_doBook_14 rfl ?_
  refine gx_iastN C hD (isMS_in hW 1 (Nat.le_of_ble_eq_true rfl)) (isMS_a0 hW) (nAdd (nAdd (nLit 215) (nMul (nLit 21) hwh)) hah) (by omega) (by decide) dX7_doBook_15 ?_
  refine gx_Su0 hW (gFr_rf (f := f)) (fun f_1 hW_1 hF_1 => ?_)
  refine gx_aload_n (q := 0) C dX7_doBook_16 rfl ?_
  refine gx_get C (i := 0) (isMS_in hW_1 0 (Nat.le_of_ble_eq_true rfl)) (isMS_0 hW_1) rfl in_X7_doBook_7 (by decide) fl_X7_doBook_7 rfl dX7_doBook_17 ?_
  refine gx_iconst (v := 0) C dX7_doBook_20 (by decide) ?_
  refine gx_ialdN C (isMS_in hW_1 1 (Nat.le_of_ble_eq_true rfl)) (isMS_a0 hW_1) (nLit 0) (by omega) (by decide) dX7_doBook_21 ?_
  refine gx_iload_n (q := 3) C dX7_doBook_22 rfl ?_
  refine gx_iadd C dX7_doBook_23 ?_
  exact gx_iretS C hr hW_1 hF_1 dX7_doBook_24 (rfl).symm (rfl).symm
theorem kdN_X7_book : yX7_book.cls ≠ "java/lang/invoke/MethodHandle" ∧ yX7_book.cls ≠ "java/lang/invoke/VarHandle" ∧ (parseMethodDescriptor yX7_book.desc).map (fun d => d.parameters.length) = some 3 := by decide +kernel
theorem kdV_X7_book : yX7_book.cls = RX7 ∧ yX7_book.cls ≠ "java/lang/invoke/MethodHandle" ∧ yX7_book.cls ≠ "java/lang/invoke/VarHandle" ∧ (parseMethodDescriptor yX7_book.desc).map (fun d => d.parameters.length) = some 3 := ⟨rfl, kdN_X7_book⟩
theorem noBook_ok {y : MS} {q wh ah : Int32} (h : 0 ≤ vX7_noBook y q wh ah) : vX7_isPupil y q = true ∧ vX7_isWheel wh = true ∧ vX7_isAhead ah = true := by
  unfold vX7_noBook at h
  by_cases a : vX7_isPupil y q = true
  · by_cases b : vX7_isWheel wh = true
    · by_cases c : vX7_isAhead ah = true
      · exact ⟨a, b, c⟩
      · rw [if_pos a, if_pos b, if_neg c] at h; exact absurd h (by decide)
    · rw [if_pos a, if_neg b] at h; exact absurd h (by decide)
  · rw [if_neg a] at h; exact absurd h (by decide)
def vX7_book (y : MS) (q : Int32) (wh : Int32) (ah : Int32) : Int32 := (if 0 ≤ (vX7_noBook y q wh ah) then (vX7_doBook (mRec y) q wh ah (cl wh) (cl ah)) else (vX7_noBook y q wh ah))
def wX7_book (y : MS) (q : Int32) (wh : Int32) (ah : Int32) : MS := (if 0 ≤ (vX7_noBook y q wh ah) then (wX7_doBook (mRec y) q wh ah (cl wh) (cl ah)) else y)
abbrev rmX7_book : Room := { frames := 3, cells := 0, slots := 0, locals := 69 }
set_option maxHeartbeats 4000000 in
set_option maxRecDepth 100000 in
theorem k_X7_book (l : Launch) {k : gK} {L : List Nat} {f : Nat → va_E} (hL : L.Nodup) {o : Nat → Nat} {y : MS} (hW : isMS k L f o y) (hK : mKK y) (q : Int32) (wh : Int32) (ah : Int32) : kM l k L f yX7_book wsX7_book rmX7_book [.ref (o 0), .int q, .int wh, .int ah] (mP k L o f (some (.int (vX7_book y q wh ah))) (wX7_book y q wh ah)) := by
  refine kM_of (cc := cX7_book) (maxL := 5) (ret := (some .int)) (by decide) rfl (Nat.le_of_ble_eq_true rfl) ?_
  intro p e s m args below meth c C hr
  have hD : gD (fun q => q ∈ L) L := ⟨hL, fun _ h => h⟩
  refine gx_lv [(0, _), (1, _), (2, _), (3, _)] [0, 1, 2, 3] rfl ?_
  refine gx_aload_n (q := 0) C dX7_book_0 rfl ?_
  refine gx_iload_n (q := 1) C dX7_book_1 rfl ?_
  refine gx_iload_n (q := 2) C dX7_book_2 rfl ?_
  refine gx_iload_n (q := 3) C dX7_book_3 rfl ?_
  refine gx_callR C (k_X7_noBook l hW _ _ _) (isMS_in hW 0 (Nat.le_of_ble_eq_true rfl)) (isMS_0 hW) rfl (cwV 3 C.2.2.2.2.1 gX7_book_X7_noBook rfl rfl rfl kdV_X7_noBook ⟨Nat.le_of_ble_eq_true rfl, Nat.le_of_ble_eq_true rfl⟩) rfl rfl (Nat.le_of_ble_eq_true rfl) ⟨Nat.le_of_ble_eq_true rfl, Nat.le_of_ble_eq_true rfl⟩ dX7_book_4 ?_
  refine gx_istore C [(4, _), (0, _), (1, _), (2, _), (3, _)] dX7_book_7 (by decide) rfl ?_
  refine gx_iload (q := 0) C dX7_book_9 rfl ?_
  refine gx_if_ge (tgt := 17) C dX7_book_11 (by decide) (fun c_11 => ?_) (fun c_11 => ?_)
  · skip
    obtain ⟨n_wh, b_wh⟩ := mWheel (noBook_ok c_11).2.1
    obtain ⟨n_ah, b_ah⟩ := mAhead (noBook_ok c_11).2.2
    refine gx_aload_n (q := 1) C dX7_book_17 rfl ?_
    refine gx_callSv C hD (gFr_rf (f := f)) (k_X7_record l hL hW hK) (isMS_in hW 0 (Nat.le_of_ble_eq_true rfl)) (isMS_0 hW) rfl (cwV 0 C.2.2.2.2.1 gX7_book_X7_record rfl rfl rfl kdV_X7_record ⟨Nat.le_of_ble_eq_true rfl, Nat.le_of_ble_eq_true rfl⟩) rfl rfl (Nat.le_of_ble_eq_true rfl) ⟨Nat.le_of_ble_eq_true rfl, Nat.le_of_ble_eq_true rfl⟩ dX7_book_18 (fun f_1 hW_1 hF_1 => ?_)
    refine gx_aload_n (q := 1) C dX7_book_21 rfl ?_
    refine gx_iload_n (q := 2) C dX7_book_22 rfl ?_
    refine gx_iload_n (q := 3) C dX7_book_23 rfl ?_
    refine gx_iload_n (q := 4) C dX7_book_24 rfl ?_
    refine gx_callSi C hD hF_1 (k_X7_doBook l hL hW_1 _ _ _ (i := (cl wh)) n_wh (by omega) (j := (cl ah)) n_ah (by omega)) (isMS_in hW_1 0 (Nat.le_of_ble_eq_true rfl)) (isMS_0 hW_1) rfl (cwV 3 C.2.2.2.2.1 gX7_book_X7_doBook rfl rfl rfl kdV_X7_doBook ⟨Nat.le_of_ble_eq_true rfl, Nat.le_of_ble_eq_true rfl⟩) rfl rfl (Nat.le_of_ble_eq_true rfl) ⟨Nat.le_of_ble_eq_true rfl, Nat.le_of_ble_eq_true rfl⟩ dX7_book_25 (fun f_2 hW_2 hF_2 => ?_)
    exact gx_iretS C hr hW_2 hF_2 dX7_book_28 ((if_pos c_11).trans (rfl)).symm ((if_pos c_11).trans (rfl)).symm
  · skip
    refine gx_iload (q := 0) C dX7_book_14 rfl ?_
    exact gx_iretS C hr hW (gFr_rf (f := f)) dX7_book_16 ((if_neg c_11).trans (rfl)).symm ((if_neg c_11).trans (rfl)).symm
theorem kdN_X7_giveBack : yX7_giveBack.cls ≠ "java/lang/invoke/MethodHandle" ∧ yX7_giveBack.cls ≠ "java/lang/invoke/VarHandle" ∧ (parseMethodDescriptor yX7_giveBack.desc).map (fun d => d.parameters.length) = some 2 := by decide +kernel
theorem kdV_X7_giveBack : yX7_giveBack.cls = RX7 ∧ yX7_giveBack.cls ≠ "java/lang/invoke/MethodHandle" ∧ yX7_giveBack.cls ≠ "java/lang/invoke/VarHandle" ∧ (parseMethodDescriptor yX7_giveBack.desc).map (fun d => d.parameters.length) = some 2 := ⟨rfl, kdN_X7_giveBack⟩
theorem zWh_rg (g : Nat → Int32) (q : Int32) (j : Nat) : ∀ n, n ≤ 5 → zWh g q j n = -6 ∨ ∃ i, i < n ∧ zWh g q j n = nI i ∧ g (215 + 21 * i + j) = q
  | 0, _ => Or.inl rfl
  | n + 1, h => by
    by_cases e : g (215 + 21 * n + j) = q
    · exact Or.inr ⟨n, by omega, if_pos e, e⟩
    · rw [show zWh g q j (n + 1) = zWh g q j n from if_neg e]
      rcases zWh_rg g q j n (by omega) with z | ⟨i, h1, h2, h3⟩
      · exact Or.inl z
      · exact Or.inr ⟨i, by omega, h2, h3⟩
theorem zWh_nat {g : Nat → Int32} {q : Int32} {j : Nat} (h : ¬ zWh g q j 5 < 0) : zWh g q j 5 = nI (cl (zWh g q j 5)) ∧ cl (zWh g q j 5) < 5 := by
  rcases zWh_rg g q j 5 (Nat.le_refl _) with z | ⟨i, h1, h2, -⟩
  · rw [z] at h; exact absurd (by decide) h
  · rw [h2, cl, nI_clamp (by omega)]; exact ⟨rfl, h1⟩
def vX7_giveBack (y : MS) (q : Int32) (ah : Int32) : Int32 := (if (vX7_isPupil y q) = true then (if (vX7_isAhead ah) = true then (if (zWh (y.1 0) q (cl ah) 5) < 0 then (-5) else (if ah = 0 then (if (y.1 0 (25 + (cl q))) = 1 then (-5) else (zWh (y.1 0) q (cl ah) 5)) else (zWh (y.1 0) q (cl ah) 5))) else (-2)) else (-1))
def wX7_giveBack (y : MS) (q : Int32) (ah : Int32) : MS := (if (vX7_isPupil y q) = true then (if (vX7_isAhead ah) = true then (if (zWh (y.1 0) q (cl ah) 5) < 0 then y else (if ah = 0 then (if (y.1 0 (25 + (cl q))) = 1 then y else (mRow (mRec y) 0 (upd ((mRec y).1 0) (215 + (21 * (cl (zWh (y.1 0) q (cl ah) 5))) + (cl ah)) (-6)))) else (mRow (mRec y) 0 (upd ((mRec y).1 0) (215 + (21 * (cl (zWh (y.1 0) q (cl ah) 5))) + (cl ah)) (-6))))) else y) else y)
theorem in_X7_giveBack_7 : ∀ w ∈ u_ws RX7 TX7 13, w ∈ wsX7_giveBack := by decide +kernel
theorem fl_X7_giveBack_7 : Cond.fieldLink RX7 7 (TX7 0).1 (TX7 0).2.1 (TX7 0).2.2.1 ∈ wsX7_giveBack := by decide +kernel
abbrev rmX7_giveBack : Room := { frames := 2, cells := 0, slots := 0, locals := 46 }
set_option maxHeartbeats 4000000 in
set_option maxRecDepth 100000 in
theorem k_X7_giveBack (l : Launch) {k : gK} {L : List Nat} {f : Nat → va_E} (hL : L.Nodup) {o : Nat → Nat} {y : MS} (hW : isMS k L f o y) (hK : mKK y) (hQ : mQK y) (q : Int32) (ah : Int32) : kM l k L f yX7_giveBack wsX7_giveBack rmX7_giveBack [.ref (o 0), .int q, .int ah] (mP k L o f (some (.int (vX7_giveBack y q ah))) (wX7_giveBack y q ah)) := by
  refine kM_of (cc := cX7_giveBack) (maxL := 4) (ret := (some .int)) (by decide) rfl (Nat.le_of_ble_eq_true rfl) ?_
  intro p e s m args below meth c C hr
  have hD : gD (fun q => q ∈ L) L := ⟨hL, fun _ h => h⟩
  refine gx_lv [(0, _), (1, _), (2, _)] [0, 1, 2] rfl ?_
  refine gx_aload_n (q := 0) C dX7_giveBack_0 rfl ?_
  refine gx_iload_n (q := 1) C dX7_giveBack_1 rfl ?_
  refine gx_callR C (k_X7_isPupil l hW _) (isMS_in hW 0 (Nat.le_of_ble_eq_true rfl)) (isMS_0 hW) rfl (cwV 1 C.2.2.2.2.1 gX7_giveBack_X7_isPupil rfl rfl rfl kdV_X7_isPupil ⟨Nat.le_of_ble_eq_true rfl, Nat.le_of_ble_eq_true rfl⟩) rfl rfl (Nat.le_of_ble_eq_true rfl) ⟨Nat.le_of_ble_eq_true rfl, Nat.le_of_ble_eq_true rfl⟩ dX7_giveBack_2 ?_
  refine gx_if_ne (tgt := 10) C dX7_giveBack_5 (by decide) (fun c_5 => ?_) (fun c_5 => ?_)
  · skip
    have h_5 := bI1.mp c_5
    obtain ⟨n_q, b_q⟩ := mPupil hQ h_5
    have bb_q := (hQ).2
    refine gx_iload_n (q := 2) C dX7_giveBack_10 rfl ?_
    refine gx_callRS C (k_X7_isAhead l (k := k) (L := L) _) (va_cwS 1 C.2.2.2.2.1 gX7_giveBack_X7_isAhead rfl rfl rfl kdN_X7_isAhead ⟨Nat.le_of_ble_eq_true rfl, Nat.le_of_ble_eq_true rfl⟩) rfl rfl (Nat.le_of_ble_eq_true rfl) ⟨Nat.le_of_ble_eq_true rfl, Nat.le_of_ble_eq_true rfl⟩ dX7_giveBack_11 ?_
    refine gx_if_ne (tgt := 20) C dX7_giveBack_14 (by decide) (fun c_14 => ?_) (fun c_14 => ?_)
    · skip
      have h_14 := bI1.mp c_14
      obtain ⟨n_ah, b_ah⟩ := mAhead h_14
      refine gx_aload_n (q := 0) C dX7_giveBack_20 rfl ?_
      refine gx_iload_n (q := 1) C dX7_giveBack_21 rfl ?_
      refine gx_iload_n (q := 2) C dX7_giveBack_22 rfl ?_
      refine gx_callR C (k_X7_wheelOf l hW _ _ (j := (cl ah)) n_ah (by omega)) (isMS_in hW 0 (Nat.le_of_ble_eq_true rfl)) (isMS_0 hW) rfl (cwV 2 C.2.2.2.2.1 gX7_giveBack_X7_wheelOf rfl rfl rfl kdV_X7_wheelOf ⟨Nat.le_of_ble_eq_true rfl, Nat.le_of_ble_eq_true rfl⟩) rfl rfl (Nat.le_of_ble_eq_true rfl) ⟨Nat.le_of_ble_eq_true rfl, Nat.le_of_ble_eq_true rfl⟩ dX7_giveBack_23 ?_
      refine gx_istore_n C (i := 3) [(3, _), (0, _), (1, _), (2, _)] dX7_giveBack_26 rfl (by decide) rfl ?_
      refine gx_iload_n (q := 0) C dX7_giveBack_27 rfl ?_
      refine gx_if_lt (tgt := 48) C dX7_giveBack_28 (by decide) (fun c_28 => ?_) (fun c_28 => ?_)
      · skip
        refine gx_bipush (v := (-5)) C dX7_giveBack_48 (by decide) ?_
        exact gx_iretS C hr hW (gFr_rf (f := f)) dX7_giveBack_50 ((if_pos h_5).trans ((if_pos h_14).trans ((if_pos c_28).trans (rfl)))).symm ((if_pos h_5).trans ((if_pos h_14).trans ((if_pos c_28).trans (rfl)))).symm
      · skip
        obtain ⟨n_w, b_w⟩ := zWh_nat c_28
        refine gx_iload_n (q := 3) C dX7_giveBack_31 rfl ?_
        refine gx_if_ne (tgt := 51) C dX7_giveBack_32 (by decide) (fun c_32 => ?_) (fun c_32 => ?_)
        · skip
          refine gx_aload_n (q := 1) C dX7_giveBack_51 rfl ?_
          refine gx_callSv C hD (gFr_rf (f := f)) (k_X7_record l hL hW hK) (isMS_in hW 0 (Nat.le_of_ble_eq_true rfl)) (isMS_0 hW) rfl (cwV 0 C.2.2.2.2.1 gX7_giveBack_X7_record rfl rfl rfl kdV_X7_record ⟨Nat.le_of_ble_eq_true rfl, Nat.le_of_ble_eq_true rfl⟩) rfl rfl (Nat.le_of_ble_eq_true rfl) ⟨Nat.le_of_ble_eq_true rfl, Nat.le_of_ble_eq_true rfl⟩ dX7_giveBack_52 (fun f_1 hW_1 hF_1 => ?_)
          refine gx_aload_n (q := 1) C dX7_giveBack_55 rfl ?_
          refine gx_get C (i := 0) (isMS_in hW_1 0 (Nat.le_of_ble_eq_true rfl)) (isMS_0 hW_1) rfl in_X7_giveBack_7 (by decide) fl_X7_giveBack_7 rfl dX7_giveBack_56 ?_
          refine gx_sipush (v := 215) C dX7_giveBack_59 (by decide) ?_
          refine gx_bipush (v := 21) C dX7_giveBack_62 (by decide) ?_
          refine gx_iload_n (q := 0) C dX7_giveBack_64 rfl ?_
          refine gx_imul C dX7_giveBack_65 ?_
          refine gx_iadd C dX7_giveBack_66 ?_
          refine gx_iload_n (q := 3) C dX7_giveBack_67 rfl ?_
          refine gx_iadd C dX7_giveBack_68 ?_
          refine gx_bipush (v := (-6)) C dX7_giveBack_69 (by decide) ?_
          refine gx_iastN C hD (isMS_in hW_1 1 (Nat.le_of_ble_eq_true rfl)) (isMS_a0 hW_1) (nAdd (nAdd (nLit 215) (nMul (nLit 21) n_w)) n_ah) (by omega) (by decide) dX7_giveBack_71 ?_
          refine gx_Su0 hW_1 hF_1 (fun f_2 hW_2 hF_2 => ?_)
          refine gx_iload_n (q := 0) C dX7_giveBack_72 rfl ?_
          exact gx_iretS C hr hW_2 hF_2 dX7_giveBack_73 ((if_pos h_5).trans ((if_pos h_14).trans ((if_neg c_28).trans ((if_neg c_32).trans (rfl))))).symm ((if_pos h_5).trans ((if_pos h_14).trans ((if_neg c_28).trans ((if_neg c_32).trans (rfl))))).symm
        · skip
          refine gx_aload_n (q := 1) C dX7_giveBack_35 rfl ?_
          refine gx_get C (i := 0) (isMS_in hW 0 (Nat.le_of_ble_eq_true rfl)) (isMS_0 hW) rfl in_X7_giveBack_7 (by decide) fl_X7_giveBack_7 rfl dX7_giveBack_36 ?_
          refine gx_bipush (v := 25) C dX7_giveBack_39 (by decide) ?_
          refine gx_iload_n (q := 2) C dX7_giveBack_41 rfl ?_
          refine gx_iadd C dX7_giveBack_42 ?_
          refine gx_ialdN C (isMS_in hW 1 (Nat.le_of_ble_eq_true rfl)) (isMS_a0 hW) (nAdd (nLit 25) n_q) (by omega) (by decide) dX7_giveBack_43 ?_
          refine gx_iconst (v := 1) C dX7_giveBack_44 (by decide) ?_
          refine gx_icmp_ne (tgt := 51) C dX7_giveBack_45 (by decide) (fun c_45 => ?_) (fun c_45 => ?_)
          · skip
            refine gx_aload_n (q := 1) C dX7_giveBack_51 rfl ?_
            refine gx_callSv C hD (gFr_rf (f := f)) (k_X7_record l hL hW hK) (isMS_in hW 0 (Nat.le_of_ble_eq_true rfl)) (isMS_0 hW) rfl (cwV 0 C.2.2.2.2.1 gX7_giveBack_X7_record rfl rfl rfl kdV_X7_record ⟨Nat.le_of_ble_eq_true rfl, Nat.le_of_ble_eq_true rfl⟩) rfl rfl (Nat.le_of_ble_eq_true rfl) ⟨Nat.le_of_ble_eq_true rfl, Nat.le_of_ble_eq_true rfl⟩ dX7_giveBack_52 (fun f_3 hW_3 hF_3 => ?_)
            refine gx_aload_n (q := 1) C dX7_giveBack_55 rfl ?_
            refine gx_get C (i := 0) (isMS_in hW_3 0 (Nat.le_of_ble_eq_true rfl)) (isMS_0 hW_3) rfl in_X7_giveBack_7 (by decide) fl_X7_giveBack_7 rfl dX7_giveBack_56 ?_
            refine gx_sipush (v := 215) C dX7_giveBack_59 (by decide) ?_
            refine gx_bipush (v := 21) C dX7_giveBack_62 (by decide) ?_
            refine gx_iload_n (q := 0) C dX7_giveBack_64 rfl ?_
            refine gx_imul C dX7_giveBack_65 ?_
            refine gx_iadd C dX7_giveBack_66 ?_
            refine gx_iload_n (q := 3) C dX7_giveBack_67 rfl ?_
            refine gx_iadd C dX7_giveBack_68 ?_
            refine gx_bipush (v := (-6)) C dX7_giveBack_69 (by decide) ?_
            refine gx_iastN C hD (isMS_in hW_3 1 (Nat.le_of_ble_eq_true rfl)) (isMS_a0 hW_3) (nAdd (nAdd (nLit 215) (nMul (nLit 21) n_w)) n_ah) (by omega) (by decide) dX7_giveBack_71 ?_
            refine gx_Su0 hW_3 hF_3 (fun f_4 hW_4 hF_4 => ?_)
            refine gx_iload_n (q := 0) C dX7_giveBack_72 rfl ?_
            exact gx_iretS C hr hW_4 hF_4 dX7_giveBack_73 ((if_pos h_5).trans ((if_pos h_14).trans ((if_neg c_28).trans ((if_pos c_32).trans ((if_neg c_45).trans (rfl)))))).symm ((if_pos h_5).trans ((if_pos h_14).trans ((if_neg c_28).trans ((if_pos c_32).trans ((if_neg c_45).trans (rfl)))))).symm
          · skip
            refine gx_bipush (v := (-5)) C dX7_giveBack_48 (by decide) ?_
            exact gx_iretS C hr hW (gFr_rf (f := f)) dX7_giveBack_50 ((if_pos h_5).trans ((if_pos h_14).trans ((if_neg c_28).trans ((if_pos c_32).trans ((if_pos c_45).trans (rfl)))))).symm ((if_pos h_5).trans ((if_pos h_14).trans ((if_neg c_28).trans ((if_pos c_32).trans ((if_pos c_45).trans (rfl)))))).symm
    · skip
      have h_14 := bI0.mp c_14
      refine gx_bipush (v := (-2)) C dX7_giveBack_17 (by decide) ?_
      exact gx_iretS C hr hW (gFr_rf (f := f)) dX7_giveBack_19 ((if_pos h_5).trans ((if_neg (bF h_14)).trans (rfl))).symm ((if_pos h_5).trans ((if_neg (bF h_14)).trans (rfl))).symm
  · skip
    have h_5 := bI0.mp c_5
    refine gx_iconst (v := (-1)) C dX7_giveBack_8 (by decide) ?_
    exact gx_iretS C hr hW (gFr_rf (f := f)) dX7_giveBack_9 ((if_neg (bF h_5)).trans (rfl)).symm ((if_neg (bF h_5)).trans (rfl)).symm
