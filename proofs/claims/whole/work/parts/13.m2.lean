theorem kdN_X7_record : yX7_record.cls ≠ "java/lang/invoke/MethodHandle" ∧ yX7_record.cls ≠ "java/lang/invoke/VarHandle" ∧ (parseMethodDescriptor yX7_record.desc).map (fun d => d.parameters.length) = some 0 := by decide +kernel
theorem kdV_X7_record : yX7_record.cls = RX7 ∧ yX7_record.cls ≠ "java/lang/invoke/MethodHandle" ∧ yX7_record.cls ≠ "java/lang/invoke/VarHandle" ∧ (parseMethodDescriptor yX7_record.desc).map (fun d => d.parameters.length) = some 0 := ⟨rfl, kdN_X7_record⟩
def mRecG (y : MS) : Nat → Int32 := if y.2 0 = 6 then va_cpy (y.1 1) (y.1 1) 320 0 1600 else y.1 1
def mRecK (y : MS) : Nat := if y.2 0 = 6 then 5 else mKn y
def mRec (y : MS) : MS := (va_up y.1 1 (va_cpy (y.1 0) (mRecG y) 0 (320 * mRecK y) 320), va_up y.2 0 (nI (mRecK y + 1)))
theorem mS_id (y : MS) (r : Nat) : ((va_up y.1 r (y.1 r), y.2) : MS) = y := by rw [va_up_id rfl]
theorem va_up_2 {α : Type} (f : Nat → α) (i : Nat) (x x2 : α) : va_up (va_up f i x) i x2 = va_up f i x2 := by
  funext j
  unfold va_up
  split <;> rfl
theorem isMS_same {k : gK} {L : List Nat} {f : Nat → va_E} {o : Nat → Nat} {y y2 : MS} (h : isMS k L f o y) (e : y2 = y) : isMS k L f o y2 := e ▸ h
theorem mRow_0 (y : MS) (r : Nat) (f : Nat → Int32) (sp dp : Nat) : mRow y r (va_cpy f (y.1 r) sp dp 0) = y := by rw [cpy_0]; exact mS_id y r
theorem mRow_s (y : MS) (r : Nat) (f g : Nat → Int32) (sp dp n : Nat) {j : Nat} {v : Int32} (hj : j = dp + n) (hx : v = f (sp + n)) : mRow y r (va_cpy f g sp dp (n + 1)) = mRow (mRow y r (va_cpy f g sp dp n)) r (upd ((mRow y r (va_cpy f g sp dp n)).1 r) j v) := by
  show (va_up y.1 r (va_cpy f g sp dp (n + 1)), y.2) = (va_up (va_up y.1 r (va_cpy f g sp dp n)) r (upd (va_up y.1 r (va_cpy f g sp dp n) r) j v), y.2)
  rw [va_up_2, va_up_at, cpy_s f g sp dp n hj hx]
theorem mRec_A {y : MS} (h : ¬ y.2 0 = 6) (hK : mKK y) : mSc (mRow y 1 (va_cpy (y.1 0) (y.1 1) 0 (320 * mKn y) 320)) 0 (y.2 0 + 1) = mRec y := by
  show (va_up y.1 1 _, va_up y.2 0 _) = _
  have e : y.2 0 + 1 = nI (mKn y + 1) := by rw [← nI_1, ← hK.1]
  rw [mRec, mRecG, mRecK, if_neg h, if_neg h, e]
theorem mRec_B {y : MS} (h : y.2 0 = 6) : mSc (mRow (mSc (mRow y 1 (va_cpy (y.1 1) (y.1 1) 320 0 1600)) 0 (y.2 0 - 1)) 1 (va_cpy (y.1 0) (va_cpy (y.1 1) (y.1 1) 320 0 1600) 0 (320 * 5) 320)) 0 (y.2 0 - 1 + 1) = mRec y := by
  show (va_up (va_up y.1 1 _) 1 _, va_up (va_up y.2 0 _) 0 _) = _
  have e : y.2 0 - 1 + 1 = nI (5 + 1) := by rw [h]; rfl
  rw [va_up_2, va_up_2, mRec, mRecG, mRecK, if_pos h, if_pos h, e]
theorem mOK_rec {y : MS} (h : mOK y) : mOK (mRec y) := h
theorem in_X7_record_7 : ∀ w ∈ u_ws RX7 TX7 13, w ∈ wsX7_record := by decide +kernel
theorem fl_X7_record_30 : Cond.fieldLink RX7 30 (TX7 2).1 (TX7 2).2.1 (TX7 2).2.2.1 ∈ wsX7_record := by decide +kernel
theorem fl_X7_record_13 : Cond.fieldLink RX7 13 (TX7 1).1 (TX7 1).2.1 (TX7 1).2.2.1 ∈ wsX7_record := by decide +kernel
theorem fl_X7_record_7 : Cond.fieldLink RX7 7 (TX7 0).1 (TX7 0).2.1 (TX7 0).2.2.1 ∈ wsX7_record := by decide +kernel
abbrev rmX7_record : Room := { frames := 0, cells := 0, slots := 0, locals := 0 }
set_option maxHeartbeats 4000000 in
set_option maxRecDepth 100000 in
theorem k_X7_record (l : Launch) {k : gK} {L : List Nat} {f : Nat → va_E} (hL : L.Nodup) {o : Nat → Nat} {y : MS} (hW : isMS k L f o y) (hK : mKK y)  : kM l k L f yX7_record wsX7_record rmX7_record [.ref (o 0)] (mP k L o f none (mRec y)) := by
  refine kM_of (cc := cX7_record) (maxL := 2) (ret := none) (by decide) rfl (Nat.le_of_ble_eq_true rfl) ?_
  intro p e s m args below meth c C hr
  have hD : gD (fun q => q ∈ L) L := ⟨hL, fun _ h => h⟩
  refine gx_lv [(0, _)] [0] rfl ?_
  refine gx_aload_n (q := 0) C dX7_record_0 rfl ?_
  refine gx_get C (i := 2) (isMS_in hW 0 (Nat.le_of_ble_eq_true rfl)) (isMS_0 hW) rfl in_X7_record_7 (by decide) fl_X7_record_30 rfl dX7_record_1 ?_
  refine gx_bipush (v := 6) C dX7_record_4 (by decide) ?_
  refine gx_icmp_ne (tgt := 50) C dX7_record_6 (by decide) (fun c_6 => ?_) (fun c_6 => ?_)
  · skip
    have hk : mKn y ≤ 5 := by have h1 := hK.2; have h2 : mKn y ≠ 6 := fun z => c_6 (by rw [hK.1, z]; rfl); omega
    refine gx_iconst (v := 0) C dX7_record_50 (by decide) ?_
    refine gx_istore_n C (i := 1) [(1, _), (0, _)] dX7_record_51 rfl (by decide) rfl ?_
    refine gx_loop (σ := Nat × (Nat → va_E)) (fun z => z.2) (fun z => [(0, .ref (o 0)), (1, .int (nI z.1))]) (fun z => z.1 ≤ 320 ∧ isMS k L z.2 o (mRow y 1 (va_cpy (y.1 0) (y.1 1) 0 (320 * mKn y) z.1)) ∧ gFr o 6 f z.2) (fun z => 320 - z.1) (0, _) [1, 0] rfl rfl ?_ ?_
    · exact ⟨Nat.zero_le _, (isMS_same hW (mRow_0 y 1 _ _ _)), (gFr_rf (f := f))⟩
    intro ⟨i, fi⟩ ⟨hI, hWi, hFi⟩ ih
    try dsimp only at hI hWi hFi ih ⊢
    refine gx_iload_n (q := 1) C dX7_record_52 rfl ?_
    refine gx_sipush (v := 320) C dX7_record_53 (by decide) ?_
    refine gx_icmp_ge (tgt := 86) C dX7_record_56 (by decide) (fun c_56 => ?_) (fun c_56 => ?_)
    · skip
      have hb : i = 320 := Nat.le_antisymm hI ((nI_leI (a := 320) (b := i) (by decide) (by omega)).mp c_56)
      subst hb
      refine gx_aload_n (q := 0) C dX7_record_86 rfl ?_
      refine gx_dup C rfl dX7_record_87 ?_
      refine gx_get C (i := 2) (isMS_in hWi 0 (Nat.le_of_ble_eq_true rfl)) (isMS_0 hWi) rfl in_X7_record_7 (by decide) fl_X7_record_30 rfl dX7_record_88 ?_
      refine gx_iconst (v := 1) C dX7_record_91 (by decide) ?_
      refine gx_iadd C dX7_record_92 ?_
      refine gx_put C hD (i := 2) (ty := .int) tyX7_ok nmX7 (isMS_in hWi 0 (Nat.le_of_ble_eq_true rfl)) (isMS_0 hWi) rfl in_X7_record_7 (by decide) fl_X7_record_30 rfl (by decide +kernel) rfl rfl (Nat.le_of_ble_eq_true rfl) rfl dX7_record_93 ?_
      refine gx_Ss0 hWi hFi (fun f_1 hW_1 hF_1 => ?_)
      exact gx_vretS C hr hW_1 hF_1 dX7_record_96 (by exact mRec_A c_6 hK)
    · skip
      have hlt : i < 320 := Nat.lt_of_not_le (fun z => c_56 ((nI_leI (a := 320) (b := i) (by decide) (by omega)).mpr z))
      refine gx_aload_n (q := 0) C dX7_record_59 rfl ?_
      refine gx_get C (i := 1) (isMS_in hWi 0 (Nat.le_of_ble_eq_true rfl)) (isMS_0 hWi) rfl in_X7_record_7 (by decide) fl_X7_record_13 rfl dX7_record_60 ?_
      refine gx_sipush (v := 320) C dX7_record_63 (by decide) ?_
      refine gx_aload_n (q := 0) C dX7_record_66 rfl ?_
      refine gx_get C (i := 2) (isMS_in hWi 0 (Nat.le_of_ble_eq_true rfl)) (isMS_0 hWi) rfl in_X7_record_7 (by decide) fl_X7_record_30 rfl dX7_record_67 ?_
      refine gx_imul C dX7_record_70 ?_
      refine gx_iload_n (q := 1) C dX7_record_71 rfl ?_
      refine gx_iadd C dX7_record_72 ?_
      refine gx_aload_n (q := 0) C dX7_record_73 rfl ?_
      refine gx_get C (i := 0) (isMS_in hWi 0 (Nat.le_of_ble_eq_true rfl)) (isMS_0 hWi) rfl in_X7_record_7 (by decide) fl_X7_record_7 rfl dX7_record_74 ?_
      refine gx_iload_n (q := 1) C dX7_record_77 rfl ?_
      refine gx_ialdN C (isMS_in hWi 1 (Nat.le_of_ble_eq_true rfl)) (isMS_a0 hWi) rfl (by omega) (by decide) dX7_record_78 ?_
      refine gx_iastN C hD (isMS_in hWi 2 (Nat.le_of_ble_eq_true rfl)) (isMS_a1 hWi) (nAdd (nMul (nLit 320) hK.1) rfl) (by omega) (by decide) dX7_record_79 ?_
      refine gx_Su1 hWi hFi (fun f_2 hW_2 hF_2 => ?_)
      refine gx_iinc C (q := 1) (v := nI (i + 1)) [(1, _), (0, _)] dX7_record_80 rfl (nI_inc i) (by decide) rfl ?_
      refine gx_goto (tgt := 52) C dX7_record_83 (by decide) ?_
      exact gx_back [1, 0] (ih (i + 1, _) ⟨by omega, (isMS_same hW_2 (mRow_s y 1 _ _ _ _ _ (by omega) (by rw [Nat.zero_add]; rfl))), hF_2⟩ (by show 320 - (i + 1) < 320 - i; omega)) rfl (by rfl)
  · skip
    refine gx_iconst (v := 0) C dX7_record_9 (by decide) ?_
    refine gx_istore_n C (i := 1) [(1, _), (0, _)] dX7_record_10 rfl (by decide) rfl ?_
    refine gx_loop (σ := Nat × (Nat → va_E)) (fun z => z.2) (fun z => [(0, .ref (o 0)), (1, .int (nI z.1))]) (fun z => z.1 ≤ 1600 ∧ isMS k L z.2 o (mRow y 1 (va_cpy (y.1 1) (y.1 1) 320 0 z.1)) ∧ gFr o 6 f z.2) (fun z => 1600 - z.1) (0, _) [1, 0] rfl rfl ?_ ?_
    · exact ⟨Nat.zero_le _, (isMS_same hW (mRow_0 y 1 _ _ _)), (gFr_rf (f := f))⟩
    intro ⟨i, fi⟩ ⟨hI, hWi, hFi⟩ ih
    try dsimp only at hI hWi hFi ih ⊢
    refine gx_iload_n (q := 1) C dX7_record_11 rfl ?_
    refine gx_sipush (v := 1600) C dX7_record_12 (by decide) ?_
    refine gx_icmp_ge (tgt := 40) C dX7_record_15 (by decide) (fun c_15 => ?_) (fun c_15 => ?_)
    · skip
      have hb : i = 1600 := Nat.le_antisymm hI ((nI_leI (a := 1600) (b := i) (by decide) (by omega)).mp c_15)
      subst hb
      refine gx_aload_n (q := 0) C dX7_record_40 rfl ?_
      refine gx_dup C rfl dX7_record_41 ?_
      refine gx_get C (i := 2) (isMS_in hWi 0 (Nat.le_of_ble_eq_true rfl)) (isMS_0 hWi) rfl in_X7_record_7 (by decide) fl_X7_record_30 rfl dX7_record_42 ?_
      refine gx_iconst (v := 1) C dX7_record_45 (by decide) ?_
      refine gx_isub C dX7_record_46 ?_
      refine gx_put C hD (i := 2) (ty := .int) tyX7_ok nmX7 (isMS_in hWi 0 (Nat.le_of_ble_eq_true rfl)) (isMS_0 hWi) rfl in_X7_record_7 (by decide) fl_X7_record_30 rfl (by decide +kernel) rfl rfl (Nat.le_of_ble_eq_true rfl) rfl dX7_record_47 ?_
      refine gx_Ss0 hWi hFi (fun f_3 hW_3 hF_3 => ?_)
      have hk5 : y.2 0 - 1 = nI 5 := by rw [c_6]; rfl
      refine gx_iconst (v := 0) C dX7_record_50 (by decide) ?_
      refine gx_istore_n C (i := 1) [(1, _), (0, _)] dX7_record_51 rfl (by decide) rfl ?_
      refine gx_loop (σ := Nat × (Nat → va_E)) (fun z => z.2) (fun z => [(0, .ref (o 0)), (1, .int (nI z.1))]) (fun z => z.1 ≤ 320 ∧ isMS k L z.2 o (mRow (mSc (mRow y 1 (va_cpy (y.1 1) (y.1 1) 320 0 1600)) 0 (y.2 0 - 1)) 1 (va_cpy (y.1 0) (va_cpy (y.1 1) (y.1 1) 320 0 1600) 0 (320 * 5) z.1)) ∧ gFr o 6 f z.2) (fun z => 320 - z.1) (0, _) [1, 0] rfl rfl ?_ ?_
      · exact ⟨Nat.zero_le _, (isMS_same hW_3 (mRow_0 (mSc (mRow y 1 (va_cpy (y.1 1) (y.1 1) 320 0 1600)) 0 (y.2 0 - 1)) 1 _ _ _)), hF_3⟩
      intro ⟨i, fi⟩ ⟨hI, hWi, hFi⟩ ih
      try dsimp only at hI hWi hFi ih ⊢
      refine gx_iload_n (q := 1) C dX7_record_52 rfl ?_
      refine gx_sipush (v := 320) C dX7_record_53 (by decide) ?_
      refine gx_icmp_ge (tgt := 86) C dX7_record_56 (by decide) (fun c_56 => ?_) (fun c_56 => ?_)
      · skip
        have hb : i = 320 := Nat.le_antisymm hI ((nI_leI (a := 320) (b := i) (by decide) (by omega)).mp c_56)
        subst hb
        refine gx_aload_n (q := 0) C dX7_record_86 rfl ?_
        refine gx_dup C rfl dX7_record_87 ?_
        refine gx_get C (i := 2) (isMS_in hWi 0 (Nat.le_of_ble_eq_true rfl)) (isMS_0 hWi) rfl in_X7_record_7 (by decide) fl_X7_record_30 rfl dX7_record_88 ?_
        refine gx_iconst (v := 1) C dX7_record_91 (by decide) ?_
        refine gx_iadd C dX7_record_92 ?_
        refine gx_put C hD (i := 2) (ty := .int) tyX7_ok nmX7 (isMS_in hWi 0 (Nat.le_of_ble_eq_true rfl)) (isMS_0 hWi) rfl in_X7_record_7 (by decide) fl_X7_record_30 rfl (by decide +kernel) rfl rfl (Nat.le_of_ble_eq_true rfl) rfl dX7_record_93 ?_
        refine gx_Ss0 hWi hFi (fun f_4 hW_4 hF_4 => ?_)
        exact gx_vretS C hr hW_4 hF_4 dX7_record_96 (by exact mRec_B c_6)
      · skip
        have hlt : i < 320 := Nat.lt_of_not_le (fun z => c_56 ((nI_leI (a := 320) (b := i) (by decide) (by omega)).mpr z))
        refine gx_aload_n (q := 0) C dX7_record_59 rfl ?_
        refine gx_get C (i := 1) (isMS_in hWi 0 (Nat.le_of_ble_eq_true rfl)) (isMS_0 hWi) rfl in_X7_record_7 (by decide) fl_X7_record_13 rfl dX7_record_60 ?_
        refine gx_sipush (v := 320) C dX7_record_63 (by decide) ?_
        refine gx_aload_n (q := 0) C dX7_record_66 rfl ?_
        refine gx_get C (i := 2) (isMS_in hWi 0 (Nat.le_of_ble_eq_true rfl)) (isMS_0 hWi) rfl in_X7_record_7 (by decide) fl_X7_record_30 rfl dX7_record_67 ?_
        refine gx_imul C dX7_record_70 ?_
        refine gx_iload_n (q := 1) C dX7_record_71 rfl ?_
        refine gx_iadd C dX7_record_72 ?_
        refine gx_aload_n (q := 0) C dX7_record_73 rfl ?_
        refine gx_get C (i := 0) (isMS_in hWi 0 (Nat.le_of_ble_eq_true rfl)) (isMS_0 hWi) rfl in_X7_record_7 (by decide) fl_X7_record_7 rfl dX7_record_74 ?_
        refine gx_iload_n (q := 1) C dX7_record_77 rfl ?_
        refine gx_ialdN C (isMS_in hWi 1 (Nat.le_of_ble_eq_true rfl)) (isMS_a0 hWi) rfl (by omega) (by decide) dX7_record_78 ?_
        refine gx_iastN C hD (isMS_in hWi 2 (Nat.le_of_ble_eq_true rfl)) (isMS_a1 hWi) (nAdd (nMul (nLit 320) hk5) rfl) (by omega) (by decide) dX7_record_79 ?_
        refine gx_Su1 hWi hFi (fun f_5 hW_5 hF_5 => ?_)
        refine gx_iinc C (q := 1) (v := nI (i + 1)) [(1, _), (0, _)] dX7_record_80 rfl (nI_inc i) (by decide) rfl ?_
        refine gx_goto (tgt := 52) C dX7_record_83 (by decide) ?_
        exact gx_back [1, 0] (ih (i + 1, _) ⟨by omega, (isMS_same hW_5 (mRow_s (mSc (mRow y 1 (va_cpy (y.1 1) (y.1 1) 320 0 1600)) 0 (y.2 0 - 1)) 1 _ _ _ _ _ (by omega) (by rw [Nat.zero_add]; rfl))), hF_5⟩ (by show 320 - (i + 1) < 320 - i; omega)) rfl (by rfl)
    · skip
      have hlt : i < 1600 := Nat.lt_of_not_le (fun z => c_15 ((nI_leI (a := 1600) (b := i) (by decide) (by omega)).mpr z))
      refine gx_aload_n (q := 0) C dX7_record_18 rfl ?_
      refine gx_get C (i := 1) (isMS_in hWi 0 (Nat.le_of_ble_eq_true rfl)) (isMS_0 hWi) rfl in_X7_record_7 (by decide) fl_X7_record_13 rfl dX7_record_19 ?_
      refine gx_iload_n (q := 1) C dX7_record_22 rfl ?_
      refine gx_aload_n (q := 0) C dX7_record_23 rfl ?_
      refine gx_get C (i := 1) (isMS_in hWi 0 (Nat.le_of_ble_eq_true rfl)) (isMS_0 hWi) rfl in_X7_record_7 (by decide) fl_X7_record_13 rfl dX7_record_24 ?_
      refine gx_sipush (v := 320) C dX7_record_27 (by decide) ?_
      refine gx_iload_n (q := 1) C dX7_record_30 rfl ?_
      refine gx_iadd C dX7_record_31 ?_
      refine gx_ialdN C (isMS_in hWi 2 (Nat.le_of_ble_eq_true rfl)) (isMS_a1 hWi) (nAdd (nLit 320) rfl) (by omega) (by decide) dX7_record_32 ?_
      refine gx_iastN C hD (isMS_in hWi 2 (Nat.le_of_ble_eq_true rfl)) (isMS_a1 hWi) rfl (by omega) (by decide) dX7_record_33 ?_
      refine gx_Su1 hWi hFi (fun f_6 hW_6 hF_6 => ?_)
      refine gx_iinc C (q := 1) (v := nI (i + 1)) [(1, _), (0, _)] dX7_record_34 rfl (nI_inc i) (by decide) rfl ?_
      refine gx_goto (tgt := 11) C dX7_record_37 (by decide) ?_
      exact gx_back [1, 0] (ih (i + 1, _) ⟨by omega, (isMS_same hW_6 (mRow_s y 1 _ _ _ _ _ (by omega) (pk_cpy_out (Or.inr (by omega))))), hF_6⟩ (by show 1600 - (i + 1) < 1600 - i; omega)) rfl (by rfl)
