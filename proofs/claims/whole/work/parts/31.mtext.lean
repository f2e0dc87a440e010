theorem kdN_X7_sign : yX7_sign.cls ≠ "java/lang/invoke/MethodHandle" ∧ yX7_sign.cls ≠ "java/lang/invoke/VarHandle" ∧ (parseMethodDescriptor yX7_sign.desc).map (fun d => d.parameters.length) = some 0 := by decide +kernel
theorem kdV_X7_sign : yX7_sign.cls = RX7 ∧ yX7_sign.cls ≠ "java/lang/invoke/MethodHandle" ∧ yX7_sign.cls ≠ "java/lang/invoke/VarHandle" ∧ (parseMethodDescriptor yX7_sign.desc).map (fun d => d.parameters.length) = some 0 := ⟨rfl, kdN_X7_sign⟩
theorem in_X7_sign_7 : ∀ w ∈ u_ws RX7 TX7 13, w ∈ wsX7_sign := by decide +kernel
theorem fl_X7_sign_183 : Cond.fieldLink RX7 183 (TX7 7).1 (TX7 7).2.1 (TX7 7).2.2.1 ∈ wsX7_sign := by decide +kernel
theorem fl_X7_sign_175 : Cond.fieldLink RX7 175 (TX7 6).1 (TX7 6).2.1 (TX7 6).2.2.1 ∈ wsX7_sign := by decide +kernel
theorem fl_X7_sign_23 : Cond.fieldLink RX7 23 (TX7 5).1 (TX7 5).2.1 (TX7 5).2.2.1 ∈ wsX7_sign := by decide +kernel
abbrev rmX7_sign : Room := { frames := 0, cells := 0, slots := 0, locals := 0 }
set_option maxHeartbeats 4000000 in
set_option maxRecDepth 100000 in
theorem k_X7_sign (l : Launch) {k : gK} {L : List Nat} {f : Nat → va_E} {o : Nat → Nat} {y : MS} {n p0 : Nat} {wr le a b c0 : Int32} (hW : isMS k L f o (mC y p0 wr le a b c0)) (hn : y.2 1 = nI n) (hn2 : n ≤ 80) (hp : p0 ≤ 100)  : kR l k L f yX7_sign wsX7_sign rmX7_sign [.ref (o 0)] (.int (sg (y.1 4) n p0)) := by
  refine kR_of (cc := cX7_sign) (maxL := 1) (ret := (some .int)) (by decide) rfl (Nat.le_of_ble_eq_true rfl) ?_
  intro p e s m args below meth c C hr
  refine gx_lv [(0, _)] [0] rfl ?_
  refine gx_aload_n (q := 0) C dX7_sign_0 rfl ?_
  refine gx_get C (i := 7) (isMS_in hW 0 (Nat.le_of_ble_eq_true rfl)) (isMS_0 hW) rfl in_X7_sign_7 (by decide) fl_X7_sign_183 rfl dX7_sign_1 ?_
  refine gx_top (nI p0) rfl ?_
  refine gx_aload_n (q := 0) C dX7_sign_4 rfl ?_
  refine gx_get C (i := 6) (isMS_in hW 0 (Nat.le_of_ble_eq_true rfl)) (isMS_0 hW) rfl in_X7_sign_7 (by decide) fl_X7_sign_175 rfl dX7_sign_5 ?_
  refine gx_top (nI n) hn ?_
  refine gx_icmp_ge (tgt := 23) C dX7_sign_8 (by decide) (fun c_8 => ?_) (fun c_8 => ?_)
  · skip
    have hb := (nI_leI (by omega) (by omega)).mp c_8
    refine gx_iconst (v := 0) C dX7_sign_23 (by decide) ?_
    exact gx_iretR C rfl hr dX7_sign_24 (congrArg Value.int (by exact (if_pos (by omega)).symm))
  · skip
    have hlt : p0 < n := Nat.lt_of_not_le (fun z => c_8 ((nI_leI (by omega) (by omega)).mpr z))
    refine gx_aload_n (q := 0) C dX7_sign_11 rfl ?_
    refine gx_get C (i := 5) (isMS_in hW 0 (Nat.le_of_ble_eq_true rfl)) (isMS_0 hW) rfl in_X7_sign_7 (by decide) fl_X7_sign_23 rfl dX7_sign_12 ?_
    refine gx_aload_n (q := 0) C dX7_sign_15 rfl ?_
    refine gx_get C (i := 7) (isMS_in hW 0 (Nat.le_of_ble_eq_true rfl)) (isMS_0 hW) rfl in_X7_sign_7 (by decide) fl_X7_sign_183 rfl dX7_sign_16 ?_
    refine gx_top (nI p0) rfl ?_
    refine gx_ialdN C (isMS_in hW 5 (Nat.le_of_ble_eq_true rfl)) (isMS_a4 hW) rfl (by omega) (by decide) dX7_sign_19 ?_
    refine gx_goto (tgt := 24) C dX7_sign_20 (by decide) ?_
    exact gx_iretR C rfl hr dX7_sign_24 (congrArg Value.int (by exact (if_neg (by omega)).symm))
theorem kdN_X7_take : yX7_take.cls ≠ "java/lang/invoke/MethodHandle" ∧ yX7_take.cls ≠ "java/lang/invoke/VarHandle" ∧ (parseMethodDescriptor yX7_take.desc).map (fun d => d.parameters.length) = some 1 := by decide +kernel
theorem kdV_X7_take : yX7_take.cls = RX7 ∧ yX7_take.cls ≠ "java/lang/invoke/MethodHandle" ∧ yX7_take.cls ≠ "java/lang/invoke/VarHandle" ∧ (parseMethodDescriptor yX7_take.desc).map (fun d => d.parameters.length) = some 1 := ⟨rfl, kdN_X7_take⟩
theorem in_X7_take_7 : ∀ w ∈ u_ws RX7 TX7 13, w ∈ wsX7_take := by decide +kernel
theorem fl_X7_take_186 : Cond.fieldLink RX7 186 (TX7 8).1 (TX7 8).2.1 (TX7 8).2.2.1 ∈ wsX7_take := by decide +kernel
theorem fl_X7_take_183 : Cond.fieldLink RX7 183 (TX7 7).1 (TX7 7).2.1 (TX7 7).2.2.1 ∈ wsX7_take := by decide +kernel
abbrev rmX7_take : Room := { frames := 0, cells := 0, slots := 0, locals := 0 }
set_option maxHeartbeats 4000000 in
set_option maxRecDepth 100000 in
theorem k_X7_take0 (l : Launch) {k : gK} {L : List Nat} {f : Nat → va_E} (hL : L.Nodup) {o : Nat → Nat} {y : MS} {n p0 : Nat} {le a b c0 : Int32} (hW : isMS k L f o (mC y p0 0 le a b c0)) (hn : y.2 1 = nI n) (hn2 : n ≤ 80) (hp : p0 ≤ 100) (can : Int32) {bq : Bool} (hcan : can = bI bq) : kM l k L f yX7_take wsX7_take rmX7_take [.ref (o 0), .int can] (fun v2 f2 => (bq = true ∧ v2 = none ∧ isMS k L f2 o (mC y (p0 + 1) 0 le a b c0) ∧ gFr o 6 f f2) ∨ (bq = false ∧ v2 = none ∧ isMS k L f2 o (mC y p0 1 le a b c0) ∧ gFr o 6 f f2)) := by
  refine kM_of (cc := cX7_take) (maxL := 2) (ret := none) (by decide) rfl (Nat.le_of_ble_eq_true rfl) ?_
  intro p e s m args below meth c C hr
  have hD : gD (fun q => q ∈ L) L := ⟨hL, fun _ h => h⟩
  refine gx_lv [(0, _), (1, _)] [0, 1] rfl ?_
  refine gx_aload_n (q := 0) C dX7_take_0 rfl ?_
  refine gx_aload_n (q := 0) C dX7_take_1 rfl ?_
  refine gx_get C (i := 8) (isMS_in hW 0 (Nat.le_of_ble_eq_true rfl)) (isMS_0 hW) rfl in_X7_take_7 (by decide) fl_X7_take_186 rfl dX7_take_2 ?_
  refine gx_top (0) rfl ?_
  refine gx_if_ne (tgt := 12) C dX7_take_5 (by decide) (fun c_5 => ?_) (fun c_5 => ?_)
  exact absurd (by decide) c_5
  refine gx_iload_n (q := 1) C dX7_take_8 rfl ?_
  refine gx_if_ne (tgt := 16) C dX7_take_9 (by decide) (fun c_9 => ?_) (fun c_9 => ?_)
  · skip
    have hbb : bq = true := bI1.mp (by rw [← hcan]; exact c_9)
    refine gx_iconst (v := 0) C dX7_take_16 (by decide) ?_
    refine gx_put C hD (i := 8) (ty := .boolean) tyX7_ok nmX7 (isMS_in hW 0 (Nat.le_of_ble_eq_true rfl)) (isMS_0 hW) rfl in_X7_take_7 (by decide) fl_X7_take_186 rfl (by decide +kernel) (by first | rfl | exact gnz _) (by first | rfl | exact gfz _) (Nat.le_of_ble_eq_true rfl) rfl dX7_take_17 ?_
    refine gx_Ss3 hW (gFr_rf (f := f)) (fun f_1 hW_1 hF_1 => ?_)
    have hW_1 := isMS_same hW_1 (mC_3 y p0 0 le a b c0 _)
    refine gx_aload_n (q := 0) C dX7_take_20 rfl ?_
    refine gx_dup C rfl dX7_take_21 ?_
    refine gx_get C (i := 7) (isMS_in hW_1 0 (Nat.le_of_ble_eq_true rfl)) (isMS_0 hW_1) rfl in_X7_take_7 (by decide) fl_X7_take_183 rfl dX7_take_22 ?_
    refine gx_top (nI p0) rfl ?_
    refine gx_aload_n (q := 0) C dX7_take_25 rfl ?_
    refine gx_get C (i := 8) (isMS_in hW_1 0 (Nat.le_of_ble_eq_true rfl)) (isMS_0 hW_1) rfl in_X7_take_7 (by decide) fl_X7_take_186 rfl dX7_take_26 ?_
    refine gx_top (0) rfl ?_
    refine gx_if_eq (tgt := 36) C dX7_take_29 (by decide) (fun c_29 => ?_) (fun c_29 => ?_)
    refine gx_iconst (v := 1) C dX7_take_36 (by decide) ?_
    refine gx_iadd C dX7_take_37 ?_
    refine gx_put C hD (i := 7) (ty := .int) tyX7_ok nmX7 (isMS_in hW_1 0 (Nat.le_of_ble_eq_true rfl)) (isMS_0 hW_1) rfl in_X7_take_7 (by decide) fl_X7_take_183 rfl (by decide +kernel) rfl rfl (Nat.le_of_ble_eq_true rfl) rfl dX7_take_38 ?_
    refine gx_Ss2 hW_1 hF_1 (fun f_2 hW_2 hF_2 => ?_)
    have hW_2 := isMS_same hW_2 (mC_2 y p0 0 le a b c0 _ (nAdd rfl (nLit 1)))
    exact gx_vretM C hr dX7_take_41 (Or.inl ⟨hbb, rfl, hW_2, hF_2⟩)
    exact absurd (by decide) c_29
  · skip
    have hbb : bq = false := bI0.mp (by rw [← hcan]; exact c_9)
    refine gx_iconst (v := 1) C dX7_take_12 (by decide) ?_
    refine gx_goto (tgt := 17) C dX7_take_13 (by decide) ?_
    refine gx_put C hD (i := 8) (ty := .boolean) tyX7_ok nmX7 (isMS_in hW 0 (Nat.le_of_ble_eq_true rfl)) (isMS_0 hW) rfl in_X7_take_7 (by decide) fl_X7_take_186 rfl (by decide +kernel) (by first | rfl | exact gnz _) (by first | rfl | exact gfz _) (Nat.le_of_ble_eq_true rfl) rfl dX7_take_17 ?_
    refine gx_Ss3 hW (gFr_rf (f := f)) (fun f_3 hW_3 hF_3 => ?_)
    have hW_3 := isMS_same hW_3 (mC_3 y p0 0 le a b c0 _)
    refine gx_aload_n (q := 0) C dX7_take_20 rfl ?_
    refine gx_dup C rfl dX7_take_21 ?_
    refine gx_get C (i := 7) (isMS_in hW_3 0 (Nat.le_of_ble_eq_true rfl)) (isMS_0 hW_3) rfl in_X7_take_7 (by decide) fl_X7_take_183 rfl dX7_take_22 ?_
    refine gx_top (nI p0) rfl ?_
    refine gx_aload_n (q := 0) C dX7_take_25 rfl ?_
    refine gx_get C (i := 8) (isMS_in hW_3 0 (Nat.le_of_ble_eq_true rfl)) (isMS_0 hW_3) rfl in_X7_take_7 (by decide) fl_X7_take_186 rfl dX7_take_26 ?_
    refine gx_top (1) rfl ?_
    refine gx_if_eq (tgt := 36) C dX7_take_29 (by decide) (fun c_29 => ?_) (fun c_29 => ?_)
    exact absurd c_29 (by decide)
    refine gx_iconst (v := 0) C dX7_take_32 (by decide) ?_
    refine gx_goto (tgt := 37) C dX7_take_33 (by decide) ?_
    refine gx_iadd C dX7_take_37 ?_
    refine gx_put C hD (i := 7) (ty := .int) tyX7_ok nmX7 (isMS_in hW_3 0 (Nat.le_of_ble_eq_true rfl)) (isMS_0 hW_3) rfl in_X7_take_7 (by decide) fl_X7_take_183 rfl (by decide +kernel) rfl rfl (Nat.le_of_ble_eq_true rfl) rfl dX7_take_38 ?_
    refine gx_Ss2 hW_3 hF_3 (fun f_4 hW_4 hF_4 => ?_)
    have hW_4 := isMS_same hW_4 (mC_2 y p0 1 le a b c0 _ (nAdd rfl (nLit 0)))
    exact gx_vretM C hr dX7_take_41 (Or.inr (⟨hbb, rfl, hW_4, hF_4⟩))
set_option maxHeartbeats 4000000 in
set_option maxRecDepth 100000 in
theorem k_X7_take1 (l : Launch) {k : gK} {L : List Nat} {f : Nat → va_E} (hL : L.Nodup) {o : Nat → Nat} {y : MS} {n p0 : Nat} {le a b c0 : Int32} (hW : isMS k L f o (mC y p0 1 le a b c0)) (hn : y.2 1 = nI n) (hn2 : n ≤ 80) (hp : p0 ≤ 100) (can : Int32) : kM l k L f yX7_take wsX7_take rmX7_take [.ref (o 0), .int can] (fun v2 f2 => (v2 = none ∧ isMS k L f2 o (mC y p0 1 le a b c0) ∧ gFr o 6 f f2)) := by
  refine kM_of (cc := cX7_take) (maxL := 2) (ret := none) (by decide) rfl (Nat.le_of_ble_eq_true rfl) ?_
  intro p e s m args below meth c C hr
  have hD : gD (fun q => q ∈ L) L := ⟨hL, fun _ h => h⟩
  refine gx_lv [(0, _), (1, _)] [0, 1] rfl ?_
  refine gx_aload_n (q := 0) C dX7_take_0 rfl ?_
  refine gx_aload_n (q := 0) C dX7_take_1 rfl ?_
  refine gx_get C (i := 8) (isMS_in hW 0 (Nat.le_of_ble_eq_true rfl)) (isMS_0 hW) rfl in_X7_take_7 (by decide) fl_X7_take_186 rfl dX7_take_2 ?_
  refine gx_top (1) rfl ?_
  refine gx_if_ne (tgt := 12) C dX7_take_5 (by decide) (fun c_5 => ?_) (fun c_5 => ?_)
  refine gx_iconst (v := 1) C dX7_take_12 (by decide) ?_
  refine gx_goto (tgt := 17) C dX7_take_13 (by decide) ?_
  refine gx_put C hD (i := 8) (ty := .boolean) tyX7_ok nmX7 (isMS_in hW 0 (Nat.le_of_ble_eq_true rfl)) (isMS_0 hW) rfl in_X7_take_7 (by decide) fl_X7_take_186 rfl (by decide +kernel) (by first | rfl | exact gnz _) (by first | rfl | exact gfz _) (Nat.le_of_ble_eq_true rfl) rfl dX7_take_17 ?_
  refine gx_Ss3 hW (gFr_rf (f := f)) (fun f_1 hW_1 hF_1 => ?_)
  have hW_1 := isMS_same hW_1 (mC_3 y p0 1 le a b c0 _)
  refine gx_aload_n (q := 0) C dX7_take_20 rfl ?_
  refine gx_dup C rfl dX7_take_21 ?_
  refine gx_get C (i := 7) (isMS_in hW_1 0 (Nat.le_of_ble_eq_true rfl)) (isMS_0 hW_1) rfl in_X7_take_7 (by decide) fl_X7_take_183 rfl dX7_take_22 ?_
  refine gx_top (nI p0) rfl ?_
  refine gx_aload_n (q := 0) C dX7_take_25 rfl ?_
  refine gx_get C (i := 8) (isMS_in hW_1 0 (Nat.le_of_ble_eq_true rfl)) (isMS_0 hW_1) rfl in_X7_take_7 (by decide) fl_X7_take_186 rfl dX7_take_26 ?_
  refine gx_top (1) rfl ?_
  refine gx_if_eq (tgt := 36) C dX7_take_29 (by decide) (fun c_29 => ?_) (fun c_29 => ?_)
  exact absurd c_29 (by decide)
  refine gx_iconst (v := 0) C dX7_take_32 (by decide) ?_
  refine gx_goto (tgt := 37) C dX7_take_33 (by decide) ?_
  refine gx_iadd C dX7_take_37 ?_
  refine gx_put C hD (i := 7) (ty := .int) tyX7_ok nmX7 (isMS_in hW_1 0 (Nat.le_of_ble_eq_true rfl)) (isMS_0 hW_1) rfl in_X7_take_7 (by decide) fl_X7_take_183 rfl (by decide +kernel) rfl rfl (Nat.le_of_ble_eq_true rfl) rfl dX7_take_38 ?_
  refine gx_Ss2 hW_1 hF_1 (fun f_2 hW_2 hF_2 => ?_)
  have hW_2 := isMS_same hW_2 (mC_2 y p0 1 le a b c0 _ (nAdd rfl (nLit 0)))
  exact gx_vretM C hr dX7_take_41 (⟨rfl, (isMS_same hW_2 rfl), hF_2⟩)
  exact absurd c_5 (by decide)
theorem kdN_X7_readDigit : yX7_readDigit.cls ≠ "java/lang/invoke/MethodHandle" ∧ yX7_readDigit.cls ≠ "java/lang/invoke/VarHandle" ∧ (parseMethodDescriptor yX7_readDigit.desc).map (fun d => d.parameters.length) = some 0 := by decide +kernel
theorem kdV_X7_readDigit : yX7_readDigit.cls = RX7 ∧ yX7_readDigit.cls ≠ "java/lang/invoke/MethodHandle" ∧ yX7_readDigit.cls ≠ "java/lang/invoke/VarHandle" ∧ (parseMethodDescriptor yX7_readDigit.desc).map (fun d => d.parameters.length) = some 0 := ⟨rfl, kdN_X7_readDigit⟩
abbrev rmX7_readDigit : Room := { frames := 1, cells := 0, slots := 0, locals := 22 }
set_option maxHeartbeats 4000000 in
set_option maxRecDepth 100000 in
theorem k_X7_readDigit (l : Launch) {k : gK} {L : List Nat} {f : Nat → va_E} (hL : L.Nodup) {o : Nat → Nat} {y : MS} {n p0 : Nat} {le a b c0 : Int32} (hW : isMS k L f o (mC y p0 0 le a b c0)) (hn : y.2 1 = nI n) (hn2 : n ≤ 80) (hp : p0 ≤ 100)  : kM l k L f yX7_readDigit wsX7_readDigit rmX7_readDigit [.ref (o 0)] (fun v2 f2 => (isD (sg (y.1 4) n p0) = true ∧ v2 = (some (.int (sg (y.1 4) n p0 - 48))) ∧ isMS k L f2 o (mC y (p0 + 1) 0 le a b c0) ∧ gFr o 6 f f2) ∨ (isD (sg (y.1 4) n p0) = false ∧ v2 = (some (.int (sg (y.1 4) n p0 - 48))) ∧ isMS k L f2 o (mC y p0 1 le a b c0) ∧ gFr o 6 f f2)) := by
  refine kM_of (cc := cX7_readDigit) (maxL := 2) (ret := (some .int)) (by decide) rfl (Nat.le_of_ble_eq_true rfl) ?_
  intro p e s m args below meth c C hr
  have hD : gD (fun q => q ∈ L) L := ⟨hL, fun _ h => h⟩
  refine gx_lv [(0, _)] [0] rfl ?_
  refine gx_aload_n (q := 0) C dX7_readDigit_0 rfl ?_
  refine gx_callR C (k_X7_sign l hW hn hn2 (by omega)) (isMS_in hW 0 (Nat.le_of_ble_eq_true rfl)) (isMS_0 hW) rfl (cwV 0 C.2.2.2.2.1 gX7_readDigit_X7_sign rfl rfl rfl kdV_X7_sign ⟨Nat.le_of_ble_eq_true rfl, Nat.le_of_ble_eq_true rfl⟩) rfl rfl (Nat.le_of_ble_eq_true rfl) ⟨Nat.le_of_ble_eq_true rfl, Nat.le_of_ble_eq_true rfl⟩ dX7_readDigit_1 ?_
  refine gx_bipush (v := 48) C dX7_readDigit_4 (by decide) ?_
  refine gx_isub C dX7_readDigit_6 ?_
  refine gx_istore_n C (i := 1) [(1, _), (0, _)] dX7_readDigit_7 rfl (by decide) rfl ?_
  refine gx_aload_n (q := 1) C dX7_readDigit_8 rfl ?_
  refine gx_iload_n (q := 0) C dX7_readDigit_9 rfl ?_
  refine gx_iconst (v := 0) C dX7_readDigit_10 (by decide) ?_
  refine gx_bipush (v := 9) C dX7_readDigit_11 (by decide) ?_
  refine gx_callRS C (k_X7_in l (k := k) (L := L) _ _ _) (va_cwS 3 C.2.2.2.2.1 gX7_readDigit_X7_in rfl rfl rfl kdN_X7_in ⟨Nat.le_of_ble_eq_true rfl, Nat.le_of_ble_eq_true rfl⟩) rfl rfl (Nat.le_of_ble_eq_true rfl) ⟨Nat.le_of_ble_eq_true rfl, Nat.le_of_ble_eq_true rfl⟩ dX7_readDigit_13 ?_
  refine gx_callM C hD (k_X7_take0 l hL hW hn hn2 (by omega) _ (bq := (isW ((sg (y.1 4) n p0) - 48) 0 9)) rfl) (isMS_in hW 0 (Nat.le_of_ble_eq_true rfl)) (isMS_0 hW) rfl (cwV 1 C.2.2.2.2.1 gX7_readDigit_X7_take rfl rfl rfl kdV_X7_take ⟨Nat.le_of_ble_eq_true rfl, Nat.le_of_ble_eq_true rfl⟩) rfl rfl (Nat.le_of_ble_eq_true rfl) ⟨Nat.le_of_ble_eq_true rfl, Nat.le_of_ble_eq_true rfl⟩ dX7_readDigit_16 (fun v_1 f_1 hp_1 => ?_)
  rcases hp_1 with ⟨hc_1_0, rfl, hW_1, hG_1⟩ | ⟨hc_1_0, rfl, hW_1, hG_1⟩
  · skip
    have hF_1 := gFr_tr (gFr_rf (f := f)) hG_1
    refine gx_nil ?_
    have hq_1_0 : (isW ((sg (y.1 4) n p0) - 48) 0 9) = true := hc_1_0
    refine gx_iload_n (q := 0) C dX7_readDigit_19 rfl ?_
    exact gx_iretM C hr dX7_readDigit_20 (Or.inl ⟨((isD_9 _).symm.trans hq_1_0), rfl, hW_1, hF_1⟩)
  · skip
    have hF_1 := gFr_tr (gFr_rf (f := f)) hG_1
    refine gx_nil ?_
    have hq_1_0 : (isW ((sg (y.1 4) n p0) - 48) 0 9) = false := hc_1_0
    refine gx_iload_n (q := 0) C dX7_readDigit_19 rfl ?_
    exact gx_iretM C hr dX7_readDigit_20 (Or.inr (⟨((isD_9 _).symm.trans hq_1_0), rfl, hW_1, hF_1⟩))
theorem kdN_X7_readNumber : yX7_readNumber.cls ≠ "java/lang/invoke/MethodHandle" ∧ yX7_readNumber.cls ≠ "java/lang/invoke/VarHandle" ∧ (parseMethodDescriptor yX7_readNumber.desc).map (fun d => d.parameters.length) = some 0 := by decide +kernel
theorem kdV_X7_readNumber : yX7_readNumber.cls = RX7 ∧ yX7_readNumber.cls ≠ "java/lang/invoke/MethodHandle" ∧ yX7_readNumber.cls ≠ "java/lang/invoke/VarHandle" ∧ (parseMethodDescriptor yX7_readNumber.desc).map (fun d => d.parameters.length) = some 0 := ⟨rfl, kdN_X7_readNumber⟩
theorem in_X7_readNumber_7 : ∀ w ∈ u_ws RX7 TX7 13, w ∈ wsX7_readNumber := by decide +kernel
theorem fl_X7_readNumber_186 : Cond.fieldLink RX7 186 (TX7 8).1 (TX7 8).2.1 (TX7 8).2.2.1 ∈ wsX7_readNumber := by decide +kernel
theorem fl_X7_readNumber_183 : Cond.fieldLink RX7 183 (TX7 7).1 (TX7 7).2.1 (TX7 7).2.2.1 ∈ wsX7_readNumber := by decide +kernel
abbrev rmX7_readNumber : Room := { frames := 2, cells := 0, slots := 0, locals := 43 }
set_option maxHeartbeats 4000000 in
set_option maxRecDepth 100000 in
theorem k_X7_readNumber (l : Launch) {k : gK} {L : List Nat} {f : Nat → va_E} (hL : L.Nodup) {o : Nat → Nat} {y : MS} {n p0 : Nat} {le a b c0 : Int32} (hW : isMS k L f o (mC y p0 0 le a b c0)) (hn : y.2 1 = nI n) (hn2 : n ≤ 80) (hp : p0 ≤ 100)  : kM l k L f yX7_readNumber wsX7_readNumber rmX7_readNumber [.ref (o 0)] (fun v2 f2 => (isD (sg (y.1 4) n p0) = true ∧ v2 = (some (.int (numV (y.1 4) n p0))) ∧ isMS k L f2 o (mC y (numE (y.1 4) n p0) 0 le a b c0) ∧ gFr o 6 f f2) ∨ (isD (sg (y.1 4) n p0) = false ∧ v2 = (some (.int (sg (y.1 4) n p0 - 48))) ∧ isMS k L f2 o (mC y p0 1 le a b c0) ∧ gFr o 6 f f2)) := by
  refine kM_of (cc := cX7_readNumber) (maxL := 2) (ret := (some .int)) (by decide) rfl (Nat.le_of_ble_eq_true rfl) ?_
  intro p e s m args below meth c C hr
  have hD : gD (fun q => q ∈ L) L := ⟨hL, fun _ h => h⟩
  refine gx_lv [(0, _)] [0] rfl ?_
  refine gx_aload_n (q := 0) C dX7_readNumber_0 rfl ?_
  refine gx_callM C hD (k_X7_readDigit l hL hW hn hn2 (by omega)) (isMS_in hW 0 (Nat.le_of_ble_eq_true rfl)) (isMS_0 hW) rfl (cwV 0 C.2.2.2.2.1 gX7_readNumber_X7_readDigit rfl rfl rfl kdV_X7_readDigit ⟨Nat.le_of_ble_eq_true rfl, Nat.le_of_ble_eq_true rfl⟩) rfl rfl (Nat.le_of_ble_eq_true rfl) ⟨Nat.le_of_ble_eq_true rfl, Nat.le_of_ble_eq_true rfl⟩ dX7_readNumber_1 (fun v_1 f_1 hp_1 => ?_)
  rcases hp_1 with ⟨hc_1_0, rfl, hW_1, hG_1⟩ | ⟨hc_1_0, rfl, hW_1, hG_1⟩
  · skip
    have hF_1 := gFr_tr (gFr_rf (f := f)) hG_1
    refine gx_cons ?_
    have hz_1 := sg_in hc_1_0
    have hq_1_0 : isD (sg (y.1 4) n p0) = true := hc_1_0
    refine gx_istore_n C (i := 1) [(1, _), (0, _)] dX7_readNumber_4 rfl (by decide) rfl ?_
    refine gx_aload_n (q := 1) C dX7_readNumber_5 rfl ?_
    refine gx_get C (i := 8) (isMS_in hW_1 0 (Nat.le_of_ble_eq_true rfl)) (isMS_0 hW_1) rfl in_X7_readNumber_7 (by decide) fl_X7_readNumber_186 rfl dX7_readNumber_6 ?_
    refine gx_top (0) rfl ?_
    refine gx_if_ne (tgt := 74) C dX7_readNumber_9 (by decide) (fun c_9 => ?_) (fun c_9 => ?_)
    exact absurd (by decide) c_9
    refine gx_iload_n (q := 0) C dX7_readNumber_12 rfl ?_
    refine gx_if_le (tgt := 74) C dX7_readNumber_13 (by decide) (fun c_13 => ?_) (fun c_13 => ?_)
    · skip
      refine gx_iload_n (q := 0) C dX7_readNumber_74 rfl ?_
      exact gx_iretM C hr dX7_readNumber_75 (Or.inl ⟨hq_1_0, by rw [numV, if_pos hq_1_0, if_pos c_13], (isMS_same hW_1 (by rw [numE, if_pos hq_1_0, if_pos c_13])), hF_1⟩)
    · skip
      refine gx_aload_n (q := 1) C dX7_readNumber_16 rfl ?_
      refine gx_callR C (k_X7_sign l hW_1 hn hn2 (by omega)) (isMS_in hW_1 0 (Nat.le_of_ble_eq_true rfl)) (isMS_0 hW_1) rfl (cwV 0 C.2.2.2.2.1 gX7_readNumber_X7_sign rfl rfl rfl kdV_X7_sign ⟨Nat.le_of_ble_eq_true rfl, Nat.le_of_ble_eq_true rfl⟩) rfl rfl (Nat.le_of_ble_eq_true rfl) ⟨Nat.le_of_ble_eq_true rfl, Nat.le_of_ble_eq_true rfl⟩ dX7_readNumber_17 ?_
      refine gx_bipush (v := 48) C dX7_readNumber_20 (by decide) ?_
      refine gx_bipush (v := 57) C dX7_readNumber_22 (by decide) ?_
      refine gx_callRS C (k_X7_in l (k := k) (L := L) _ _ _) (va_cwS 3 C.2.2.2.2.1 gX7_readNumber_X7_in rfl rfl rfl kdN_X7_in ⟨Nat.le_of_ble_eq_true rfl, Nat.le_of_ble_eq_true rfl⟩) rfl rfl (Nat.le_of_ble_eq_true rfl) ⟨Nat.le_of_ble_eq_true rfl, Nat.le_of_ble_eq_true rfl⟩ dX7_readNumber_24 ?_
      refine gx_if_eq (tgt := 74) C dX7_readNumber_27 (by decide) (fun c_27 => ?_) (fun c_27 => ?_)
      · skip
        have h_27 := bI0.mp c_27
        refine gx_iload_n (q := 0) C dX7_readNumber_74 rfl ?_
        exact gx_iretM C hr dX7_readNumber_75 (Or.inl ⟨hq_1_0, by rw [numV, if_pos hq_1_0, if_neg c_13, if_neg (bF h_27)], (isMS_same hW_1 (by rw [numE, if_pos hq_1_0, if_neg c_13, if_neg (bF h_27)])), hF_1⟩)
      · skip
        have h_27 := bI1.mp c_27
        have hs_27 := sg_in h_27
        refine gx_bipush (v := 10) C dX7_readNumber_30 (by decide) ?_
        refine gx_iload_n (q := 0) C dX7_readNumber_32 rfl ?_
        refine gx_imul C dX7_readNumber_33 ?_
        refine gx_aload_n (q := 1) C dX7_readNumber_34 rfl ?_
        refine gx_callR C (k_X7_sign l hW_1 hn hn2 (by omega)) (isMS_in hW_1 0 (Nat.le_of_ble_eq_true rfl)) (isMS_0 hW_1) rfl (cwV 0 C.2.2.2.2.1 gX7_readNumber_X7_sign rfl rfl rfl kdV_X7_sign ⟨Nat.le_of_ble_eq_true rfl, Nat.le_of_ble_eq_true rfl⟩) rfl rfl (Nat.le_of_ble_eq_true rfl) ⟨Nat.le_of_ble_eq_true rfl, Nat.le_of_ble_eq_true rfl⟩ dX7_readNumber_35 ?_
        refine gx_iadd C dX7_readNumber_38 ?_
        refine gx_bipush (v := 48) C dX7_readNumber_39 (by decide) ?_
        refine gx_isub C dX7_readNumber_41 ?_
        refine gx_sipush (v := 999) C dX7_readNumber_42 (by decide) ?_
        refine gx_icmp_gt (tgt := 74) C dX7_readNumber_45 (by decide) (fun c_45 => ?_) (fun c_45 => ?_)
        · skip
          exact absurd c_45 (num_a hq_1_0 h_27)
        · skip
          refine gx_bipush (v := 10) C dX7_readNumber_48 (by decide) ?_
          refine gx_iload_n (q := 0) C dX7_readNumber_50 rfl ?_
          refine gx_imul C dX7_readNumber_51 ?_
          refine gx_aload_n (q := 1) C dX7_readNumber_52 rfl ?_
          refine gx_callR C (k_X7_sign l hW_1 hn hn2 (by omega)) (isMS_in hW_1 0 (Nat.le_of_ble_eq_true rfl)) (isMS_0 hW_1) rfl (cwV 0 C.2.2.2.2.1 gX7_readNumber_X7_sign rfl rfl rfl kdV_X7_sign ⟨Nat.le_of_ble_eq_true rfl, Nat.le_of_ble_eq_true rfl⟩) rfl rfl (Nat.le_of_ble_eq_true rfl) ⟨Nat.le_of_ble_eq_true rfl, Nat.le_of_ble_eq_true rfl⟩ dX7_readNumber_53 ?_
          refine gx_iadd C dX7_readNumber_56 ?_
          refine gx_bipush (v := 48) C dX7_readNumber_57 (by decide) ?_
          refine gx_isub C dX7_readNumber_59 ?_
          refine gx_top (10 * (sg (y.1 4) n p0 - 48) + (sg (y.1 4) n (p0 + 1) - 48)) (i_ab _ _) ?_
          refine gx_istore_n C (i := 1) [(1, _), (0, _)] dX7_readNumber_60 rfl (by decide) rfl ?_
          refine gx_aload_n (q := 1) C dX7_readNumber_61 rfl ?_
          refine gx_dup C rfl dX7_readNumber_62 ?_
          refine gx_get C (i := 7) (isMS_in hW_1 0 (Nat.le_of_ble_eq_true rfl)) (isMS_0 hW_1) rfl in_X7_readNumber_7 (by decide) fl_X7_readNumber_183 rfl dX7_readNumber_63 ?_
          refine gx_top (nI (p0 + 1)) rfl ?_
          refine gx_iconst (v := 1) C dX7_readNumber_66 (by decide) ?_
          refine gx_iadd C dX7_readNumber_67 ?_
          refine gx_put C hD (i := 7) (ty := .int) tyX7_ok nmX7 (isMS_in hW_1 0 (Nat.le_of_ble_eq_true rfl)) (isMS_0 hW_1) rfl in_X7_readNumber_7 (by decide) fl_X7_readNumber_183 rfl (by decide +kernel) rfl rfl (Nat.le_of_ble_eq_true rfl) rfl dX7_readNumber_68 ?_
          refine gx_Ss2 hW_1 hF_1 (fun f_2 hW_2 hF_2 => ?_)
          have hW_2 := isMS_same hW_2 (mC_2 y (p0 + 1) 0 le a b c0 _ (nAdd rfl (nLit 1)))
          refine gx_goto (tgt := 5) C dX7_readNumber_71 (by decide) ?_
          refine gx_aload_n (q := 1) C dX7_readNumber_5 rfl ?_
          refine gx_get C (i := 8) (isMS_in hW_2 0 (Nat.le_of_ble_eq_true rfl)) (isMS_0 hW_2) rfl in_X7_readNumber_7 (by decide) fl_X7_readNumber_186 rfl dX7_readNumber_6 ?_
          refine gx_top (0) rfl ?_
          refine gx_if_ne (tgt := 74) C dX7_readNumber_9 (by decide) (fun c_9_1 => ?_) (fun c_9_1 => ?_)
          exact absurd (by decide) c_9_1
          refine gx_iload_n (q := 0) C dX7_readNumber_12 rfl ?_
          refine gx_if_le (tgt := 74) C dX7_readNumber_13 (by decide) (fun c_13_1 => ?_) (fun c_13_1 => ?_)
          · skip
            exact absurd c_13_1 (dig2 hq_1_0 h_27 c_13)
          · skip
            refine gx_aload_n (q := 1) C dX7_readNumber_16 rfl ?_
            refine gx_callR C (k_X7_sign l hW_2 hn hn2 (by omega)) (isMS_in hW_2 0 (Nat.le_of_ble_eq_true rfl)) (isMS_0 hW_2) rfl (cwV 0 C.2.2.2.2.1 gX7_readNumber_X7_sign rfl rfl rfl kdV_X7_sign ⟨Nat.le_of_ble_eq_true rfl, Nat.le_of_ble_eq_true rfl⟩) rfl rfl (Nat.le_of_ble_eq_true rfl) ⟨Nat.le_of_ble_eq_true rfl, Nat.le_of_ble_eq_true rfl⟩ dX7_readNumber_17 ?_
            refine gx_bipush (v := 48) C dX7_readNumber_20 (by decide) ?_
            refine gx_bipush (v := 57) C dX7_readNumber_22 (by decide) ?_
            refine gx_callRS C (k_X7_in l (k := k) (L := L) _ _ _) (va_cwS 3 C.2.2.2.2.1 gX7_readNumber_X7_in rfl rfl rfl kdN_X7_in ⟨Nat.le_of_ble_eq_true rfl, Nat.le_of_ble_eq_true rfl⟩) rfl rfl (Nat.le_of_ble_eq_true rfl) ⟨Nat.le_of_ble_eq_true rfl, Nat.le_of_ble_eq_true rfl⟩ dX7_readNumber_24 ?_
            refine gx_if_eq (tgt := 74) C dX7_readNumber_27 (by decide) (fun c_27_1 => ?_) (fun c_27_1 => ?_)
            · skip
              have h_27_1 := bI0.mp c_27_1
              refine gx_iload_n (q := 0) C dX7_readNumber_74 rfl ?_
              exact gx_iretM C hr dX7_readNumber_75 (Or.inl ⟨hq_1_0, by rw [numV, if_pos hq_1_0, if_neg c_13, if_pos h_27, if_neg (bF h_27_1)], (isMS_same hW_2 (by rw [numE, if_pos hq_1_0, if_neg c_13, if_pos h_27, if_neg (bF h_27_1)])), hF_2⟩)
            · skip
              have h_27_1 := bI1.mp c_27_1
              have hs_27_1 := sg_in h_27_1
              refine gx_bipush (v := 10) C dX7_readNumber_30 (by decide) ?_
              refine gx_iload_n (q := 0) C dX7_readNumber_32 rfl ?_
              refine gx_imul C dX7_readNumber_33 ?_
              refine gx_aload_n (q := 1) C dX7_readNumber_34 rfl ?_
              refine gx_callR C (k_X7_sign l hW_2 hn hn2 (by omega)) (isMS_in hW_2 0 (Nat.le_of_ble_eq_true rfl)) (isMS_0 hW_2) rfl (cwV 0 C.2.2.2.2.1 gX7_readNumber_X7_sign rfl rfl rfl kdV_X7_sign ⟨Nat.le_of_ble_eq_true rfl, Nat.le_of_ble_eq_true rfl⟩) rfl rfl (Nat.le_of_ble_eq_true rfl) ⟨Nat.le_of_ble_eq_true rfl, Nat.le_of_ble_eq_true rfl⟩ dX7_readNumber_35 ?_
              refine gx_iadd C dX7_readNumber_38 ?_
              refine gx_bipush (v := 48) C dX7_readNumber_39 (by decide) ?_
              refine gx_isub C dX7_readNumber_41 ?_
              refine gx_sipush (v := 999) C dX7_readNumber_42 (by decide) ?_
              refine gx_icmp_gt (tgt := 74) C dX7_readNumber_45 (by decide) (fun c_45_1 => ?_) (fun c_45_1 => ?_)
              · skip
                exact absurd c_45_1 (num_b hq_1_0 h_27 h_27_1)
              · skip
                refine gx_bipush (v := 10) C dX7_readNumber_48 (by decide) ?_
                refine gx_iload_n (q := 0) C dX7_readNumber_50 rfl ?_
                refine gx_imul C dX7_readNumber_51 ?_
                refine gx_aload_n (q := 1) C dX7_readNumber_52 rfl ?_
                refine gx_callR C (k_X7_sign l hW_2 hn hn2 (by omega)) (isMS_in hW_2 0 (Nat.le_of_ble_eq_true rfl)) (isMS_0 hW_2) rfl (cwV 0 C.2.2.2.2.1 gX7_readNumber_X7_sign rfl rfl rfl kdV_X7_sign ⟨Nat.le_of_ble_eq_true rfl, Nat.le_of_ble_eq_true rfl⟩) rfl rfl (Nat.le_of_ble_eq_true rfl) ⟨Nat.le_of_ble_eq_true rfl, Nat.le_of_ble_eq_true rfl⟩ dX7_readNumber_53 ?_
                refine gx_iadd C dX7_readNumber_56 ?_
                refine gx_bipush (v := 48) C dX7_readNumber_57 (by decide) ?_
                refine gx_isub C dX7_readNumber_59 ?_
                refine gx_top (10 * (10 * (sg (y.1 4) n p0 - 48) + (sg (y.1 4) n (p0 + 1) - 48)) + (sg (y.1 4) n (p0 + 1 + 1) - 48)) (i_ab _ _) ?_
                refine gx_istore_n C (i := 1) [(1, _), (0, _)] dX7_readNumber_60 rfl (by decide) rfl ?_
                refine gx_aload_n (q := 1) C dX7_readNumber_61 rfl ?_
                refine gx_dup C rfl dX7_readNumber_62 ?_
                refine gx_get C (i := 7) (isMS_in hW_2 0 (Nat.le_of_ble_eq_true rfl)) (isMS_0 hW_2) rfl in_X7_readNumber_7 (by decide) fl_X7_readNumber_183 rfl dX7_readNumber_63 ?_
                refine gx_top (nI (p0 + 1 + 1)) rfl ?_
                refine gx_iconst (v := 1) C dX7_readNumber_66 (by decide) ?_
                refine gx_iadd C dX7_readNumber_67 ?_
                refine gx_put C hD (i := 7) (ty := .int) tyX7_ok nmX7 (isMS_in hW_2 0 (Nat.le_of_ble_eq_true rfl)) (isMS_0 hW_2) rfl in_X7_readNumber_7 (by decide) fl_X7_readNumber_183 rfl (by decide +kernel) rfl rfl (Nat.le_of_ble_eq_true rfl) rfl dX7_readNumber_68 ?_
                refine gx_Ss2 hW_2 hF_2 (fun f_3 hW_3 hF_3 => ?_)
                have hW_3 := isMS_same hW_3 (mC_2 y (p0 + 1 + 1) 0 le a b c0 _ (nAdd rfl (nLit 1)))
                refine gx_goto (tgt := 5) C dX7_readNumber_71 (by decide) ?_
                refine gx_aload_n (q := 1) C dX7_readNumber_5 rfl ?_
                refine gx_get C (i := 8) (isMS_in hW_3 0 (Nat.le_of_ble_eq_true rfl)) (isMS_0 hW_3) rfl in_X7_readNumber_7 (by decide) fl_X7_readNumber_186 rfl dX7_readNumber_6 ?_
                refine gx_top (0) rfl ?_
                refine gx_if_ne (tgt := 74) C dX7_readNumber_9 (by decide) (fun c_9_2 => ?_) (fun c_9_2 => ?_)
                exact absurd (by decide) c_9_2
                refine gx_iload_n (q := 0) C dX7_readNumber_12 rfl ?_
                refine gx_if_le (tgt := 74) C dX7_readNumber_13 (by decide) (fun c_13_2 => ?_) (fun c_13_2 => ?_)
                · skip
                  exact absurd c_13_2 (num_p hq_1_0 h_27 h_27_1 c_13)
                · skip
                  refine gx_aload_n (q := 1) C dX7_readNumber_16 rfl ?_
                  refine gx_callR C (k_X7_sign l hW_3 hn hn2 (by omega)) (isMS_in hW_3 0 (Nat.le_of_ble_eq_true rfl)) (isMS_0 hW_3) rfl (cwV 0 C.2.2.2.2.1 gX7_readNumber_X7_sign rfl rfl rfl kdV_X7_sign ⟨Nat.le_of_ble_eq_true rfl, Nat.le_of_ble_eq_true rfl⟩) rfl rfl (Nat.le_of_ble_eq_true rfl) ⟨Nat.le_of_ble_eq_true rfl, Nat.le_of_ble_eq_true rfl⟩ dX7_readNumber_17 ?_
                  refine gx_bipush (v := 48) C dX7_readNumber_20 (by decide) ?_
                  refine gx_bipush (v := 57) C dX7_readNumber_22 (by decide) ?_
                  refine gx_callRS C (k_X7_in l (k := k) (L := L) _ _ _) (va_cwS 3 C.2.2.2.2.1 gX7_readNumber_X7_in rfl rfl rfl kdN_X7_in ⟨Nat.le_of_ble_eq_true rfl, Nat.le_of_ble_eq_true rfl⟩) rfl rfl (Nat.le_of_ble_eq_true rfl) ⟨Nat.le_of_ble_eq_true rfl, Nat.le_of_ble_eq_true rfl⟩ dX7_readNumber_24 ?_
                  refine gx_if_eq (tgt := 74) C dX7_readNumber_27 (by decide) (fun c_27_2 => ?_) (fun c_27_2 => ?_)
                  · skip
                    have h_27_2 := bI0.mp c_27_2
                    refine gx_iload_n (q := 0) C dX7_readNumber_74 rfl ?_
                    exact gx_iretM C hr dX7_readNumber_75 (Or.inl ⟨hq_1_0, by rw [numV, if_pos hq_1_0, if_neg c_13, if_pos h_27, if_pos h_27_1], (isMS_same hW_3 (by rw [numE, if_pos hq_1_0, if_neg c_13, if_pos h_27, if_pos h_27_1])), hF_3⟩)
                  · skip
                    have h_27_2 := bI1.mp c_27_2
                    have hs_27_2 := sg_in h_27_2
                    refine gx_bipush (v := 10) C dX7_readNumber_30 (by decide) ?_
                    refine gx_iload_n (q := 0) C dX7_readNumber_32 rfl ?_
                    refine gx_imul C dX7_readNumber_33 ?_
                    refine gx_aload_n (q := 1) C dX7_readNumber_34 rfl ?_
                    refine gx_callR C (k_X7_sign l hW_3 hn hn2 (by omega)) (isMS_in hW_3 0 (Nat.le_of_ble_eq_true rfl)) (isMS_0 hW_3) rfl (cwV 0 C.2.2.2.2.1 gX7_readNumber_X7_sign rfl rfl rfl kdV_X7_sign ⟨Nat.le_of_ble_eq_true rfl, Nat.le_of_ble_eq_true rfl⟩) rfl rfl (Nat.le_of_ble_eq_true rfl) ⟨Nat.le_of_ble_eq_true rfl, Nat.le_of_ble_eq_true rfl⟩ dX7_readNumber_35 ?_
                    refine gx_iadd C dX7_readNumber_38 ?_
                    refine gx_bipush (v := 48) C dX7_readNumber_39 (by decide) ?_
                    refine gx_isub C dX7_readNumber_41 ?_
                    refine gx_sipush (v := 999) C dX7_readNumber_42 (by decide) ?_
                    refine gx_icmp_gt (tgt := 74) C dX7_readNumber_45 (by decide) (fun c_45_2 => ?_) (fun c_45_2 => ?_)
                    · skip
                      refine gx_iload_n (q := 0) C dX7_readNumber_74 rfl ?_
                      exact gx_iretM C hr dX7_readNumber_75 (Or.inl ⟨hq_1_0, by rw [numV, if_pos hq_1_0, if_neg c_13, if_pos h_27, if_pos h_27_1], (isMS_same hW_3 (by rw [numE, if_pos hq_1_0, if_neg c_13, if_pos h_27, if_pos h_27_1])), hF_3⟩)
                    · skip
                      exact absurd (num_c hq_1_0 h_27 h_27_1 h_27_2 c_13) c_45_2
  · skip
    have hF_1 := gFr_tr (gFr_rf (f := f)) hG_1
    refine gx_cons ?_
    have hq_1_0 : isD (sg (y.1 4) n p0) = false := hc_1_0
    refine gx_istore_n C (i := 1) [(1, _), (0, _)] dX7_readNumber_4 rfl (by decide) rfl ?_
    refine gx_aload_n (q := 1) C dX7_readNumber_5 rfl ?_
    refine gx_get C (i := 8) (isMS_in hW_1 0 (Nat.le_of_ble_eq_true rfl)) (isMS_0 hW_1) rfl in_X7_readNumber_7 (by decide) fl_X7_readNumber_186 rfl dX7_readNumber_6 ?_
    refine gx_top (1) rfl ?_
    refine gx_if_ne (tgt := 74) C dX7_readNumber_9 (by decide) (fun c_9 => ?_) (fun c_9 => ?_)
    refine gx_iload_n (q := 0) C dX7_readNumber_74 rfl ?_
    exact gx_iretM C hr dX7_readNumber_75 (Or.inr (⟨hq_1_0, rfl, hW_1, hF_1⟩))
    exact absurd c_9 (by decide)
theorem kdN_X7_readOrder : yX7_readOrder.cls ≠ "java/lang/invoke/MethodHandle" ∧ yX7_readOrder.cls ≠ "java/lang/invoke/VarHandle" ∧ (parseMethodDescriptor yX7_readOrder.desc).map (fun d => d.parameters.length) = some 0 := by decide +kernel
theorem kdV_X7_readOrder : yX7_readOrder.cls = RX7 ∧ yX7_readOrder.cls ≠ "java/lang/invoke/MethodHandle" ∧ yX7_readOrder.cls ≠ "java/lang/invoke/VarHandle" ∧ (parseMethodDescriptor yX7_readOrder.desc).map (fun d => d.parameters.length) = some 0 := ⟨rfl, kdN_X7_readOrder⟩
theorem in_X7_readOrder_7 : ∀ w ∈ u_ws RX7 TX7 13, w ∈ wsX7_readOrder := by decide +kernel
theorem fl_X7_readOrder_200 : Cond.fieldLink RX7 200 (TX7 9).1 (TX7 9).2.1 (TX7 9).2.2.1 ∈ wsX7_readOrder := by decide +kernel
theorem fl_X7_readOrder_203 : Cond.fieldLink RX7 203 (TX7 11).1 (TX7 11).2.1 (TX7 11).2.2.1 ∈ wsX7_readOrder := by decide +kernel
theorem fl_X7_readOrder_206 : Cond.fieldLink RX7 206 (TX7 12).1 (TX7 12).2.1 (TX7 12).2.2.1 ∈ wsX7_readOrder := by decide +kernel
theorem fl_X7_readOrder_186 : Cond.fieldLink RX7 186 (TX7 8).1 (TX7 8).2.1 (TX7 8).2.2.1 ∈ wsX7_readOrder := by decide +kernel
theorem fl_X7_readOrder_212 : Cond.fieldLink RX7 212 (TX7 10).1 (TX7 10).2.1 (TX7 10).2.2.1 ∈ wsX7_readOrder := by decide +kernel
theorem fl_X7_readOrder_183 : Cond.fieldLink RX7 183 (TX7 7).1 (TX7 7).2.1 (TX7 7).2.2.1 ∈ wsX7_readOrder := by decide +kernel
abbrev rmX7_readOrder : Room := { frames := 3, cells := 0, slots := 0, locals := 64 }
set_option maxHeartbeats 4000000 in
set_option maxRecDepth 100000 in
theorem k_X7_readOrder (l : Launch) {k : gK} {L : List Nat} {f : Nat → va_E} (hL : L.Nodup) {o : Nat → Nat} {y : MS} {n p0 : Nat} {le a b c0 : Int32} (hW : isMS k L f o (mC y p0 0 le a b c0)) (hn : y.2 1 = nI n) (hn2 : n ≤ 80) (hp : p0 ≤ 100)  : kM l k L f yX7_readOrder wsX7_readOrder rmX7_readOrder [.ref (o 0)] (fun v2 f2 => (∃ a2, (ordr (y.1 4) n p0).1 = true ∧ (¬ sg (y.1 4) n p0 = 112 → a2 = (ordr (y.1 4) n p0).2.2.1) ∧ v2 = none ∧ isMS k L f2 o (mC y ((ordr (y.1 4) n p0).2.1) 0 (sg (y.1 4) n p0) a2 ((ordr (y.1 4) n p0).2.2.2.1) ((ordr (y.1 4) n p0).2.2.2.2)) ∧ gFr o 6 f f2) ∨ (∃ le2 a2 b2 c2, (ordr (y.1 4) n p0).1 = false ∧ v2 = none ∧ isMS k L f2 o (mC y ((ordr (y.1 4) n p0).2.1) 1 le2 a2 b2 c2) ∧ gFr o 6 f f2)) := by
  refine kM_of (cc := cX7_readOrder) (maxL := 1) (ret := none) (by decide) rfl (Nat.le_of_ble_eq_true rfl) ?_
  intro p e s m args below meth c C hr
  have hD : gD (fun q => q ∈ L) L := ⟨hL, fun _ h => h⟩
  refine gx_lv [(0, _)] [0] rfl ?_
  refine gx_aload_n (q := 0) C dX7_readOrder_0 rfl ?_
  refine gx_aload_n (q := 0) C dX7_readOrder_1 rfl ?_
  refine gx_callR C (k_X7_sign l hW hn hn2 (by omega)) (isMS_in hW 0 (Nat.le_of_ble_eq_true rfl)) (isMS_0 hW) rfl (cwV 0 C.2.2.2.2.1 gX7_readOrder_X7_sign rfl rfl rfl kdV_X7_sign ⟨Nat.le_of_ble_eq_true rfl, Nat.le_of_ble_eq_true rfl⟩) rfl rfl (Nat.le_of_ble_eq_true rfl) ⟨Nat.le_of_ble_eq_true rfl, Nat.le_of_ble_eq_true rfl⟩ dX7_readOrder_2 ?_
  refine gx_put C hD (i := 9) (ty := .int) tyX7_ok nmX7 (isMS_in hW 0 (Nat.le_of_ble_eq_true rfl)) (isMS_0 hW) rfl in_X7_readOrder_7 (by decide) fl_X7_readOrder_200 rfl (by decide +kernel) rfl rfl (Nat.le_of_ble_eq_true rfl) rfl dX7_readOrder_5 ?_
  refine gx_Ss4 hW (gFr_rf (f := f)) (fun f_1 hW_1 hF_1 => ?_)
  have hW_1 := isMS_same hW_1 (mC_4 y p0 0 le a b c0 _)
  refine gx_aload_n (q := 0) C dX7_readOrder_8 rfl ?_
  refine gx_iconst (v := 0) C dX7_readOrder_9 (by decide) ?_
  refine gx_put C hD (i := 11) (ty := .int) tyX7_ok nmX7 (isMS_in hW_1 0 (Nat.le_of_ble_eq_true rfl)) (isMS_0 hW_1) rfl in_X7_readOrder_7 (by decide) fl_X7_readOrder_203 rfl (by decide +kernel) rfl rfl (Nat.le_of_ble_eq_true rfl) rfl dX7_readOrder_10 ?_
  refine gx_Ss6 hW_1 hF_1 (fun f_2 hW_2 hF_2 => ?_)
  have hW_2 := isMS_same hW_2 (mC_6 y p0 0 (sg (y.1 4) n p0) a b c0 _)
  refine gx_aload_n (q := 0) C dX7_readOrder_13 rfl ?_
  refine gx_iconst (v := 0) C dX7_readOrder_14 (by decide) ?_
  refine gx_put C hD (i := 12) (ty := .int) tyX7_ok nmX7 (isMS_in hW_2 0 (Nat.le_of_ble_eq_true rfl)) (isMS_0 hW_2) rfl in_X7_readOrder_7 (by decide) fl_X7_readOrder_206 rfl (by decide +kernel) rfl rfl (Nat.le_of_ble_eq_true rfl) rfl dX7_readOrder_15 ?_
  refine gx_Ss7 hW_2 hF_2 (fun f_3 hW_3 hF_3 => ?_)
  have hW_3 := isMS_same hW_3 (mC_7 y p0 0 (sg (y.1 4) n p0) a 0 c0 _)
  refine gx_aload_n (q := 0) C dX7_readOrder_18 rfl ?_
  refine gx_aload_n (q := 0) C dX7_readOrder_19 rfl ?_
  refine gx_get C (i := 9) (isMS_in hW_3 0 (Nat.le_of_ble_eq_true rfl)) (isMS_0 hW_3) rfl in_X7_readOrder_7 (by decide) fl_X7_readOrder_200 rfl dX7_readOrder_20 ?_
  refine gx_top ((sg (y.1 4) n p0)) rfl ?_
  refine gx_bipush (v := 112) C dX7_readOrder_23 (by decide) ?_
  refine gx_icmp_eq (tgt := 91) C dX7_readOrder_25 (by decide) (fun c_25 => ?_) (fun c_25 => ?_)
  · skip
    have hz0 := sg_ne c_25 (by decide)
    refine gx_iconst (v := 1) C dX7_readOrder_91 (by decide) ?_
    refine gx_goto (tgt := 96) C dX7_readOrder_92 (by decide) ?_
    refine gx_callM C hD (k_X7_take0 l hL hW_3 hn hn2 (by omega) _ (bq := true) rfl) (isMS_in hW_3 0 (Nat.le_of_ble_eq_true rfl)) (isMS_0 hW_3) rfl (cwV 1 C.2.2.2.2.1 gX7_readOrder_X7_take rfl rfl rfl kdV_X7_take ⟨Nat.le_of_ble_eq_true rfl, Nat.le_of_ble_eq_true rfl⟩) rfl rfl (Nat.le_of_ble_eq_true rfl) ⟨Nat.le_of_ble_eq_true rfl, Nat.le_of_ble_eq_true rfl⟩ dX7_readOrder_96 (fun v_4 f_4 hp_4 => ?_)
    rcases hp_4 with ⟨hc_4_0, rfl, hW_4, hG_4⟩ | ⟨hc_4_0, rfl, hW_4, hG_4⟩
    · skip
      have hF_4 := gFr_tr hF_3 hG_4
      refine gx_nil ?_
      have hq_4_0 : true = true := hc_4_0
      refine gx_aload_n (q := 0) C dX7_readOrder_99 rfl ?_
      refine gx_get C (i := 8) (isMS_in hW_4 0 (Nat.le_of_ble_eq_true rfl)) (isMS_0 hW_4) rfl in_X7_readOrder_7 (by decide) fl_X7_readOrder_186 rfl dX7_readOrder_100 ?_
      refine gx_top (0) rfl ?_
      refine gx_if_ne (tgt := 115) C dX7_readOrder_103 (by decide) (fun c_103 => ?_) (fun c_103 => ?_)
      exact absurd (by decide) c_103
      refine gx_aload_n (q := 0) C dX7_readOrder_106 rfl ?_
      refine gx_get C (i := 9) (isMS_in hW_4 0 (Nat.le_of_ble_eq_true rfl)) (isMS_0 hW_4) rfl in_X7_readOrder_7 (by decide) fl_X7_readOrder_200 rfl dX7_readOrder_107 ?_
      refine gx_top ((sg (y.1 4) n p0)) rfl ?_
      refine gx_top (112) c_25 ?_
      refine gx_bipush (v := 112) C dX7_readOrder_110 (by decide) ?_
      refine gx_icmp_ne (tgt := 116) C dX7_readOrder_112 (by decide) (fun c_112 => ?_) (fun c_112 => ?_)
      exact absurd (by decide) c_112
      exact gx_vretM C hr dX7_readOrder_115 (Or.inl ⟨a, (by simp [ordr, c_25]), (by simp [ordr, c_25]), rfl, (isMS_same hW_4 (by simp [ordr, c_25])), hF_4⟩)
    · skip
      have hF_4 := gFr_tr hF_3 hG_4
      refine gx_nil ?_
      exact absurd hc_4_0 (by decide)
  · skip
    refine gx_aload_n (q := 0) C dX7_readOrder_28 rfl ?_
    refine gx_get C (i := 9) (isMS_in hW_3 0 (Nat.le_of_ble_eq_true rfl)) (isMS_0 hW_3) rfl in_X7_readOrder_7 (by decide) fl_X7_readOrder_200 rfl dX7_readOrder_29 ?_
    refine gx_top ((sg (y.1 4) n p0)) rfl ?_
    refine gx_bipush (v := 98) C dX7_readOrder_32 (by decide) ?_
    refine gx_icmp_eq (tgt := 91) C dX7_readOrder_34 (by decide) (fun c_34 => ?_) (fun c_34 => ?_)
    · skip
      have hz0 := sg_ne c_34 (by decide)
      refine gx_iconst (v := 1) C dX7_readOrder_91 (by decide) ?_
      refine gx_goto (tgt := 96) C dX7_readOrder_92 (by decide) ?_
      refine gx_callM C hD (k_X7_take0 l hL hW_3 hn hn2 (by omega) _ (bq := true) rfl) (isMS_in hW_3 0 (Nat.le_of_ble_eq_true rfl)) (isMS_0 hW_3) rfl (cwV 1 C.2.2.2.2.1 gX7_readOrder_X7_take rfl rfl rfl kdV_X7_take ⟨Nat.le_of_ble_eq_true rfl, Nat.le_of_ble_eq_true rfl⟩) rfl rfl (Nat.le_of_ble_eq_true rfl) ⟨Nat.le_of_ble_eq_true rfl, Nat.le_of_ble_eq_true rfl⟩ dX7_readOrder_96 (fun v_5 f_5 hp_5 => ?_)
      rcases hp_5 with ⟨hc_5_0, rfl, hW_5, hG_5⟩ | ⟨hc_5_0, rfl, hW_5, hG_5⟩
      · skip
        have hF_5 := gFr_tr hF_3 hG_5
        refine gx_nil ?_
        have hq_5_0 : true = true := hc_5_0
        refine gx_aload_n (q := 0) C dX7_readOrder_99 rfl ?_
        refine gx_get C (i := 8) (isMS_in hW_5 0 (Nat.le_of_ble_eq_true rfl)) (isMS_0 hW_5) rfl in_X7_readOrder_7 (by decide) fl_X7_readOrder_186 rfl dX7_readOrder_100 ?_
        refine gx_top (0) rfl ?_
        refine gx_if_ne (tgt := 115) C dX7_readOrder_103 (by decide) (fun c_103 => ?_) (fun c_103 => ?_)
        exact absurd (by decide) c_103
        refine gx_aload_n (q := 0) C dX7_readOrder_106 rfl ?_
        refine gx_get C (i := 9) (isMS_in hW_5 0 (Nat.le_of_ble_eq_true rfl)) (isMS_0 hW_5) rfl in_X7_readOrder_7 (by decide) fl_X7_readOrder_200 rfl dX7_readOrder_107 ?_
        refine gx_top ((sg (y.1 4) n p0)) rfl ?_
        refine gx_top (98) c_34 ?_
        refine gx_bipush (v := 112) C dX7_readOrder_110 (by decide) ?_
        refine gx_icmp_ne (tgt := 116) C dX7_readOrder_112 (by decide) (fun c_112 => ?_) (fun c_112 => ?_)
        refine gx_aload_n (q := 0) C dX7_readOrder_116 rfl ?_
        refine gx_aload_n (q := 0) C dX7_readOrder_117 rfl ?_
        refine gx_get C (i := 9) (isMS_in hW_5 0 (Nat.le_of_ble_eq_true rfl)) (isMS_0 hW_5) rfl in_X7_readOrder_7 (by decide) fl_X7_readOrder_200 rfl dX7_readOrder_118 ?_
        refine gx_top ((sg (y.1 4) n p0)) rfl ?_
        refine gx_top (98) c_34 ?_
        refine gx_bipush (v := 98) C dX7_readOrder_121 (by decide) ?_
        refine gx_icmp_eq (tgt := 135) C dX7_readOrder_123 (by decide) (fun c_123 => ?_) (fun c_123 => ?_)
        refine gx_aload_n (q := 0) C dX7_readOrder_135 rfl ?_
        refine gx_callM C hD (k_X7_readDigit l hL hW_5 hn hn2 (by omega)) (isMS_in hW_5 0 (Nat.le_of_ble_eq_true rfl)) (isMS_0 hW_5) rfl (cwV 0 C.2.2.2.2.1 gX7_readOrder_X7_readDigit rfl rfl rfl kdV_X7_readDigit ⟨Nat.le_of_ble_eq_true rfl, Nat.le_of_ble_eq_true rfl⟩) rfl rfl (Nat.le_of_ble_eq_true rfl) ⟨Nat.le_of_ble_eq_true rfl, Nat.le_of_ble_eq_true rfl⟩ dX7_readOrder_136 (fun v_6 f_6 hp_6 => ?_)
        rcases hp_6 with ⟨hc_6_0, rfl, hW_6, hG_6⟩ | ⟨hc_6_0, rfl, hW_6, hG_6⟩
        · skip
          have hF_6 := gFr_tr hF_5 hG_6
          refine gx_cons ?_
          have hz_6 := sg_in hc_6_0
          have hq_6_0 : isD (sg (y.1 4) n (p0 + 1)) = true := hc_6_0
          refine gx_goto (tgt := 146) C dX7_readOrder_139 (by decide) ?_
          refine gx_put C hD (i := 10) (ty := .int) tyX7_ok nmX7 (isMS_in hW_6 0 (Nat.le_of_ble_eq_true rfl)) (isMS_0 hW_6) rfl in_X7_readOrder_7 (by decide) fl_X7_readOrder_212 rfl (by decide +kernel) rfl rfl (Nat.le_of_ble_eq_true rfl) rfl dX7_readOrder_146 ?_
          refine gx_Ss5 hW_6 hF_6 (fun f_7 hW_7 hF_7 => ?_)
          have hW_7 := isMS_same hW_7 (mC_5 y (p0 + 2) 0 (sg (y.1 4) n p0) a 0 0 _)
          refine gx_aload_n (q := 0) C dX7_readOrder_149 rfl ?_
          refine gx_get C (i := 9) (isMS_in hW_7 0 (Nat.le_of_ble_eq_true rfl)) (isMS_0 hW_7) rfl in_X7_readOrder_7 (by decide) fl_X7_readOrder_200 rfl dX7_readOrder_150 ?_
          refine gx_top ((sg (y.1 4) n p0)) rfl ?_
          refine gx_top (98) c_34 ?_
          refine gx_bipush (v := 98) C dX7_readOrder_153 (by decide) ?_
          refine gx_icmp_ne (tgt := 214) C dX7_readOrder_155 (by decide) (fun c_155 => ?_) (fun c_155 => ?_)
          exact absurd (by decide) c_155
          refine gx_aload_n (q := 0) C dX7_readOrder_158 rfl ?_
          refine gx_aload_n (q := 0) C dX7_readOrder_159 rfl ?_
          refine gx_get C (i := 8) (isMS_in hW_7 0 (Nat.le_of_ble_eq_true rfl)) (isMS_0 hW_7) rfl in_X7_readOrder_7 (by decide) fl_X7_readOrder_186 rfl dX7_readOrder_160 ?_
          refine gx_top (0) rfl ?_
          refine gx_if_eq (tgt := 170) C dX7_readOrder_163 (by decide) (fun c_163 => ?_) (fun c_163 => ?_)
          refine gx_aload_n (q := 0) C dX7_readOrder_170 rfl ?_
          refine gx_callM C hD (k_X7_readDigit l hL hW_7 hn hn2 (by omega)) (isMS_in hW_7 0 (Nat.le_of_ble_eq_true rfl)) (isMS_0 hW_7) rfl (cwV 0 C.2.2.2.2.1 gX7_readOrder_X7_readDigit rfl rfl rfl kdV_X7_readDigit ⟨Nat.le_of_ble_eq_true rfl, Nat.le_of_ble_eq_true rfl⟩) rfl rfl (Nat.le_of_ble_eq_true rfl) ⟨Nat.le_of_ble_eq_true rfl, Nat.le_of_ble_eq_true rfl⟩ dX7_readOrder_171 (fun v_8 f_8 hp_8 => ?_)
          rcases hp_8 with ⟨hc_8_0, rfl, hW_8, hG_8⟩ | ⟨hc_8_0, rfl, hW_8, hG_8⟩
          · skip
            have hF_8 := gFr_tr hF_7 hG_8
            refine gx_cons ?_
            have hz_8 := sg_in hc_8_0
            have hq_8_0 : isD (sg (y.1 4) n (p0 + 2)) = true := hc_8_0
            refine gx_put C hD (i := 11) (ty := .int) tyX7_ok nmX7 (isMS_in hW_8 0 (Nat.le_of_ble_eq_true rfl)) (isMS_0 hW_8) rfl in_X7_readOrder_7 (by decide) fl_X7_readOrder_203 rfl (by decide +kernel) rfl rfl (Nat.le_of_ble_eq_true rfl) rfl dX7_readOrder_174 ?_
            refine gx_Ss6 hW_8 hF_8 (fun f_9 hW_9 hF_9 => ?_)
            have hW_9 := isMS_same hW_9 (mC_6 y (p0 + 3) 0 (sg (y.1 4) n p0) (sg (y.1 4) n (p0 + 1) - 48) 0 0 _)
            refine gx_aload_n (q := 0) C dX7_readOrder_177 rfl ?_
            refine gx_get C (i := 8) (isMS_in hW_9 0 (Nat.le_of_ble_eq_true rfl)) (isMS_0 hW_9) rfl in_X7_readOrder_7 (by decide) fl_X7_readOrder_186 rfl dX7_readOrder_178 ?_
            refine gx_top (0) rfl ?_
            refine gx_if_ne (tgt := 283) C dX7_readOrder_181 (by decide) (fun c_181 => ?_) (fun c_181 => ?_)
            exact absurd (by decide) c_181
            refine gx_aload_n (q := 0) C dX7_readOrder_184 rfl ?_
            refine gx_callR C (k_X7_sign l hW_9 hn hn2 (by omega)) (isMS_in hW_9 0 (Nat.le_of_ble_eq_true rfl)) (isMS_0 hW_9) rfl (cwV 0 C.2.2.2.2.1 gX7_readOrder_X7_sign rfl rfl rfl kdV_X7_sign ⟨Nat.le_of_ble_eq_true rfl, Nat.le_of_ble_eq_true rfl⟩) rfl rfl (Nat.le_of_ble_eq_true rfl) ⟨Nat.le_of_ble_eq_true rfl, Nat.le_of_ble_eq_true rfl⟩ dX7_readOrder_185 ?_
            refine gx_bipush (v := 43) C dX7_readOrder_188 (by decide) ?_
            refine gx_icmp_ne (tgt := 283) C dX7_readOrder_190 (by decide) (fun c_190 => ?_) (fun c_190 => ?_)
            · skip
              exact gx_vretM C hr dX7_readOrder_283 (Or.inl ⟨(sg (y.1 4) n (p0 + 1) - 48), (by simp [ordr, c_25, c_34, c_190, hq_6_0, hq_8_0]), (by simp [ordr, c_25, c_34, c_190, hq_6_0, hq_8_0]), rfl, (isMS_same hW_9 (by simp [ordr, c_25, c_34, c_190, hq_6_0, hq_8_0])), hF_9⟩)
            · skip
              refine gx_aload_n (q := 0) C dX7_readOrder_193 rfl ?_
              refine gx_dup C rfl dX7_readOrder_194 ?_
              refine gx_get C (i := 7) (isMS_in hW_9 0 (Nat.le_of_ble_eq_true rfl)) (isMS_0 hW_9) rfl in_X7_readOrder_7 (by decide) fl_X7_readOrder_183 rfl dX7_readOrder_195 ?_
              refine gx_top (nI (p0 + 3)) rfl ?_
              refine gx_iconst (v := 1) C dX7_readOrder_198 (by decide) ?_
              refine gx_iadd C dX7_readOrder_199 ?_
              refine gx_put C hD (i := 7) (ty := .int) tyX7_ok nmX7 (isMS_in hW_9 0 (Nat.le_of_ble_eq_true rfl)) (isMS_0 hW_9) rfl in_X7_readOrder_7 (by decide) fl_X7_readOrder_183 rfl (by decide +kernel) rfl rfl (Nat.le_of_ble_eq_true rfl) rfl dX7_readOrder_200 ?_
              refine gx_Ss2 hW_9 hF_9 (fun f_10 hW_10 hF_10 => ?_)
              have hW_10 := isMS_same hW_10 (mC_2 y (p0 + 3) 0 (sg (y.1 4) n p0) (sg (y.1 4) n (p0 + 1) - 48) (sg (y.1 4) n (p0 + 2) - 48) 0 _ (nAdd rfl (nLit 1)))
              refine gx_aload_n (q := 0) C dX7_readOrder_203 rfl ?_
              refine gx_aload_n (q := 0) C dX7_readOrder_204 rfl ?_
              refine gx_callM C hD (k_X7_readNumber l hL hW_10 hn hn2 (by omega)) (isMS_in hW_10 0 (Nat.le_of_ble_eq_true rfl)) (isMS_0 hW_10) rfl (cwV 0 C.2.2.2.2.1 gX7_readOrder_X7_readNumber rfl rfl rfl kdV_X7_readNumber ⟨Nat.le_of_ble_eq_true rfl, Nat.le_of_ble_eq_true rfl⟩) rfl rfl (Nat.le_of_ble_eq_true rfl) ⟨Nat.le_of_ble_eq_true rfl, Nat.le_of_ble_eq_true rfl⟩ dX7_readOrder_205 (fun v_11 f_11 hp_11 => ?_)
              rcases hp_11 with ⟨hc_11_0, rfl, hW_11, hG_11⟩ | ⟨hc_11_0, rfl, hW_11, hG_11⟩
              · skip
                have hF_11 := gFr_tr hF_10 hG_11
                refine gx_cons ?_
                have hz_11 := numE_b _ _ _ hc_11_0
                have hy_11 := numE_3 (y.1 4) n (p0 + 3 + 1)
                have hq_11_0 : isD (sg (y.1 4) n (p0 + 4)) = true := hc_11_0
                refine gx_put C hD (i := 12) (ty := .int) tyX7_ok nmX7 (isMS_in hW_11 0 (Nat.le_of_ble_eq_true rfl)) (isMS_0 hW_11) rfl in_X7_readOrder_7 (by decide) fl_X7_readOrder_206 rfl (by decide +kernel) rfl rfl (Nat.le_of_ble_eq_true rfl) rfl dX7_readOrder_208 ?_
                refine gx_Ss7 hW_11 hF_11 (fun f_12 hW_12 hF_12 => ?_)
                have hW_12 := isMS_same hW_12 (mC_7 y (numE (y.1 4) n (p0 + 4)) 0 (sg (y.1 4) n p0) (sg (y.1 4) n (p0 + 1) - 48) (sg (y.1 4) n (p0 + 2) - 48) 0 _)
                refine gx_goto (tgt := 283) C dX7_readOrder_211 (by decide) ?_
                exact gx_vretM C hr dX7_readOrder_283 (Or.inl ⟨(sg (y.1 4) n (p0 + 1) - 48), (by simp [ordr, c_25, c_34, c_190, hq_6_0, hq_8_0, hq_11_0]), (by simp [ordr, c_25, c_34, c_190, hq_6_0, hq_8_0, hq_11_0]), rfl, (isMS_same hW_12 (by simp [ordr, c_25, c_34, c_190, hq_6_0, hq_8_0, hq_11_0])), hF_12⟩)
              · skip
                have hF_11 := gFr_tr hF_10 hG_11
                refine gx_cons ?_
                have hq_11_0 : isD (sg (y.1 4) n (p0 + 4)) = false := hc_11_0
                refine gx_put C hD (i := 12) (ty := .int) tyX7_ok nmX7 (isMS_in hW_11 0 (Nat.le_of_ble_eq_true rfl)) (isMS_0 hW_11) rfl in_X7_readOrder_7 (by decide) fl_X7_readOrder_206 rfl (by decide +kernel) rfl rfl (Nat.le_of_ble_eq_true rfl) rfl dX7_readOrder_208 ?_
                refine gx_Ss7 hW_11 hF_11 (fun f_13 hW_13 hF_13 => ?_)
                have hW_13 := isMS_same hW_13 (mC_7 y (p0 + 4) 1 (sg (y.1 4) n p0) (sg (y.1 4) n (p0 + 1) - 48) (sg (y.1 4) n (p0 + 2) - 48) 0 _)
                refine gx_goto (tgt := 283) C dX7_readOrder_211 (by decide) ?_
                exact gx_vretM C hr dX7_readOrder_283 (Or.inr (⟨(sg (y.1 4) n p0), (sg (y.1 4) n (p0 + 1) - 48), (sg (y.1 4) n (p0 + 2) - 48), (sg (y.1 4) n (p0 + 4) - 48), (by simp [ordr, c_25, c_34, c_190, hq_6_0, hq_8_0, hq_11_0]), rfl, (isMS_same hW_13 (by simp [ordr, c_25, c_34, c_190, hq_6_0, hq_8_0, hq_11_0])), hF_13⟩))
          · skip
            have hF_8 := gFr_tr hF_7 hG_8
            refine gx_cons ?_
            have hq_8_0 : isD (sg (y.1 4) n (p0 + 2)) = false := hc_8_0
            refine gx_put C hD (i := 11) (ty := .int) tyX7_ok nmX7 (isMS_in hW_8 0 (Nat.le_of_ble_eq_true rfl)) (isMS_0 hW_8) rfl in_X7_readOrder_7 (by decide) fl_X7_readOrder_203 rfl (by decide +kernel) rfl rfl (Nat.le_of_ble_eq_true rfl) rfl dX7_readOrder_174 ?_
            refine gx_Ss6 hW_8 hF_8 (fun f_14 hW_14 hF_14 => ?_)
            have hW_14 := isMS_same hW_14 (mC_6 y (p0 + 2) 1 (sg (y.1 4) n p0) (sg (y.1 4) n (p0 + 1) - 48) 0 0 _)
            refine gx_aload_n (q := 0) C dX7_readOrder_177 rfl ?_
            refine gx_get C (i := 8) (isMS_in hW_14 0 (Nat.le_of_ble_eq_true rfl)) (isMS_0 hW_14) rfl in_X7_readOrder_7 (by decide) fl_X7_readOrder_186 rfl dX7_readOrder_178 ?_
            refine gx_top (1) rfl ?_
            refine gx_if_ne (tgt := 283) C dX7_readOrder_181 (by decide) (fun c_181 => ?_) (fun c_181 => ?_)
            exact gx_vretM C hr dX7_readOrder_283 (Or.inr (⟨(sg (y.1 4) n p0), (sg (y.1 4) n (p0 + 1) - 48), (sg (y.1 4) n (p0 + 2) - 48), 0, (by simp [ordr, c_25, c_34, hq_6_0, hq_8_0]), rfl, (isMS_same hW_14 (by simp [ordr, c_25, c_34, hq_6_0, hq_8_0])), hF_14⟩))
            exact absurd c_181 (by decide)
          exact absurd (by decide) c_163
        · skip
          have hF_6 := gFr_tr hF_5 hG_6
          refine gx_cons ?_
          have hq_6_0 : isD (sg (y.1 4) n (p0 + 1)) = false := hc_6_0
          refine gx_goto (tgt := 146) C dX7_readOrder_139 (by decide) ?_
          refine gx_put C hD (i := 10) (ty := .int) tyX7_ok nmX7 (isMS_in hW_6 0 (Nat.le_of_ble_eq_true rfl)) (isMS_0 hW_6) rfl in_X7_readOrder_7 (by decide) fl_X7_readOrder_212 rfl (by decide +kernel) rfl rfl (Nat.le_of_ble_eq_true rfl) rfl dX7_readOrder_146 ?_
          refine gx_Ss5 hW_6 hF_6 (fun f_15 hW_15 hF_15 => ?_)
          have hW_15 := isMS_same hW_15 (mC_5 y (p0 + 1) 1 (sg (y.1 4) n p0) a 0 0 _)
          refine gx_aload_n (q := 0) C dX7_readOrder_149 rfl ?_
          refine gx_get C (i := 9) (isMS_in hW_15 0 (Nat.le_of_ble_eq_true rfl)) (isMS_0 hW_15) rfl in_X7_readOrder_7 (by decide) fl_X7_readOrder_200 rfl dX7_readOrder_150 ?_
          refine gx_top ((sg (y.1 4) n p0)) rfl ?_
          refine gx_top (98) c_34 ?_
          refine gx_bipush (v := 98) C dX7_readOrder_153 (by decide) ?_
          refine gx_icmp_ne (tgt := 214) C dX7_readOrder_155 (by decide) (fun c_155 => ?_) (fun c_155 => ?_)
          exact absurd (by decide) c_155
          refine gx_aload_n (q := 0) C dX7_readOrder_158 rfl ?_
          refine gx_aload_n (q := 0) C dX7_readOrder_159 rfl ?_
          refine gx_get C (i := 8) (isMS_in hW_15 0 (Nat.le_of_ble_eq_true rfl)) (isMS_0 hW_15) rfl in_X7_readOrder_7 (by decide) fl_X7_readOrder_186 rfl dX7_readOrder_160 ?_
          refine gx_top (1) rfl ?_
          refine gx_if_eq (tgt := 170) C dX7_readOrder_163 (by decide) (fun c_163 => ?_) (fun c_163 => ?_)
          exact absurd c_163 (by decide)
          refine gx_iconst (v := 0) C dX7_readOrder_166 (by decide) ?_
          refine gx_goto (tgt := 174) C dX7_readOrder_167 (by decide) ?_
          refine gx_put C hD (i := 11) (ty := .int) tyX7_ok nmX7 (isMS_in hW_15 0 (Nat.le_of_ble_eq_true rfl)) (isMS_0 hW_15) rfl in_X7_readOrder_7 (by decide) fl_X7_readOrder_203 rfl (by decide +kernel) rfl rfl (Nat.le_of_ble_eq_true rfl) rfl dX7_readOrder_174 ?_
          refine gx_Ss6 hW_15 hF_15 (fun f_16 hW_16 hF_16 => ?_)
          have hW_16 := isMS_same hW_16 (mC_6 y (p0 + 1) 1 (sg (y.1 4) n p0) (sg (y.1 4) n (p0 + 1) - 48) 0 0 _)
          refine gx_aload_n (q := 0) C dX7_readOrder_177 rfl ?_
          refine gx_get C (i := 8) (isMS_in hW_16 0 (Nat.le_of_ble_eq_true rfl)) (isMS_0 hW_16) rfl in_X7_readOrder_7 (by decide) fl_X7_readOrder_186 rfl dX7_readOrder_178 ?_
          refine gx_top (1) rfl ?_
          refine gx_if_ne (tgt := 283) C dX7_readOrder_181 (by decide) (fun c_181 => ?_) (fun c_181 => ?_)
          exact gx_vretM C hr dX7_readOrder_283 (Or.inr (⟨(sg (y.1 4) n p0), (sg (y.1 4) n (p0 + 1) - 48), 0, 0, (by simp [ordr, c_25, c_34, hq_6_0]), rfl, (isMS_same hW_16 (by simp [ordr, c_25, c_34, hq_6_0])), hF_16⟩))
          exact absurd c_181 (by decide)
        exact absurd (by decide) c_123
        exact absurd c_112 (by decide)
      · skip
        have hF_5 := gFr_tr hF_3 hG_5
        refine gx_nil ?_
        exact absurd hc_5_0 (by decide)
    · skip
      refine gx_aload_n (q := 0) C dX7_readOrder_37 rfl ?_
      refine gx_get C (i := 9) (isMS_in hW_3 0 (Nat.le_of_ble_eq_true rfl)) (isMS_0 hW_3) rfl in_X7_readOrder_7 (by decide) fl_X7_readOrder_200 rfl dX7_readOrder_38 ?_
      refine gx_top ((sg (y.1 4) n p0)) rfl ?_
      refine gx_bipush (v := 116) C dX7_readOrder_41 (by decide) ?_
      refine gx_icmp_eq (tgt := 91) C dX7_readOrder_43 (by decide) (fun c_43 => ?_) (fun c_43 => ?_)
      · skip
        have hz0 := sg_ne c_43 (by decide)
        refine gx_iconst (v := 1) C dX7_readOrder_91 (by decide) ?_
        refine gx_goto (tgt := 96) C dX7_readOrder_92 (by decide) ?_
        refine gx_callM C hD (k_X7_take0 l hL hW_3 hn hn2 (by omega) _ (bq := true) rfl) (isMS_in hW_3 0 (Nat.le_of_ble_eq_true rfl)) (isMS_0 hW_3) rfl (cwV 1 C.2.2.2.2.1 gX7_readOrder_X7_take rfl rfl rfl kdV_X7_take ⟨Nat.le_of_ble_eq_true rfl, Nat.le_of_ble_eq_true rfl⟩) rfl rfl (Nat.le_of_ble_eq_true rfl) ⟨Nat.le_of_ble_eq_true rfl, Nat.le_of_ble_eq_true rfl⟩ dX7_readOrder_96 (fun v_17 f_17 hp_17 => ?_)
        rcases hp_17 with ⟨hc_17_0, rfl, hW_17, hG_17⟩ | ⟨hc_17_0, rfl, hW_17, hG_17⟩
        · skip
          have hF_17 := gFr_tr hF_3 hG_17
          refine gx_nil ?_
          have hq_17_0 : true = true := hc_17_0
          refine gx_aload_n (q := 0) C dX7_readOrder_99 rfl ?_
          refine gx_get C (i := 8) (isMS_in hW_17 0 (Nat.le_of_ble_eq_true rfl)) (isMS_0 hW_17) rfl in_X7_readOrder_7 (by decide) fl_X7_readOrder_186 rfl dX7_readOrder_100 ?_
          refine gx_top (0) rfl ?_
          refine gx_if_ne (tgt := 115) C dX7_readOrder_103 (by decide) (fun c_103 => ?_) (fun c_103 => ?_)
          exact absurd (by decide) c_103
          refine gx_aload_n (q := 0) C dX7_readOrder_106 rfl ?_
          refine gx_get C (i := 9) (isMS_in hW_17 0 (Nat.le_of_ble_eq_true rfl)) (isMS_0 hW_17) rfl in_X7_readOrder_7 (by decide) fl_X7_readOrder_200 rfl dX7_readOrder_107 ?_
          refine gx_top ((sg (y.1 4) n p0)) rfl ?_
          refine gx_top (116) c_43 ?_
          refine gx_bipush (v := 112) C dX7_readOrder_110 (by decide) ?_
          refine gx_icmp_ne (tgt := 116) C dX7_readOrder_112 (by decide) (fun c_112 => ?_) (fun c_112 => ?_)
          refine gx_aload_n (q := 0) C dX7_readOrder_116 rfl ?_
          refine gx_aload_n (q := 0) C dX7_readOrder_117 rfl ?_
          refine gx_get C (i := 9) (isMS_in hW_17 0 (Nat.le_of_ble_eq_true rfl)) (isMS_0 hW_17) rfl in_X7_readOrder_7 (by decide) fl_X7_readOrder_200 rfl dX7_readOrder_118 ?_
          refine gx_top ((sg (y.1 4) n p0)) rfl ?_
          refine gx_top (116) c_43 ?_
          refine gx_bipush (v := 98) C dX7_readOrder_121 (by decide) ?_
          refine gx_icmp_eq (tgt := 135) C dX7_readOrder_123 (by decide) (fun c_123 => ?_) (fun c_123 => ?_)
          exact absurd c_123 (by decide)
          refine gx_aload_n (q := 0) C dX7_readOrder_126 rfl ?_
          refine gx_get C (i := 9) (isMS_in hW_17 0 (Nat.le_of_ble_eq_true rfl)) (isMS_0 hW_17) rfl in_X7_readOrder_7 (by decide) fl_X7_readOrder_200 rfl dX7_readOrder_127 ?_
          refine gx_top ((sg (y.1 4) n p0)) rfl ?_
          refine gx_top (116) c_43 ?_
          refine gx_bipush (v := 116) C dX7_readOrder_130 (by decide) ?_
          refine gx_icmp_ne (tgt := 142) C dX7_readOrder_132 (by decide) (fun c_132 => ?_) (fun c_132 => ?_)
          exact absurd (by decide) c_132
          refine gx_aload_n (q := 0) C dX7_readOrder_135 rfl ?_
          refine gx_callM C hD (k_X7_readDigit l hL hW_17 hn hn2 (by omega)) (isMS_in hW_17 0 (Nat.le_of_ble_eq_true rfl)) (isMS_0 hW_17) rfl (cwV 0 C.2.2.2.2.1 gX7_readOrder_X7_readDigit rfl rfl rfl kdV_X7_readDigit ⟨Nat.le_of_ble_eq_true rfl, Nat.le_of_ble_eq_true rfl⟩) rfl rfl (Nat.le_of_ble_eq_true rfl) ⟨Nat.le_of_ble_eq_true rfl, Nat.le_of_ble_eq_true rfl⟩ dX7_readOrder_136 (fun v_18 f_18 hp_18 => ?_)
          rcases hp_18 with ⟨hc_18_0, rfl, hW_18, hG_18⟩ | ⟨hc_18_0, rfl, hW_18, hG_18⟩
          · skip
            have hF_18 := gFr_tr hF_17 hG_18
            refine gx_cons ?_
            have hz_18 := sg_in hc_18_0
            have hq_18_0 : isD (sg (y.1 4) n (p0 + 1)) = true := hc_18_0
            refine gx_goto (tgt := 146) C dX7_readOrder_139 (by decide) ?_
            refine gx_put C hD (i := 10) (ty := .int) tyX7_ok nmX7 (isMS_in hW_18 0 (Nat.le_of_ble_eq_true rfl)) (isMS_0 hW_18) rfl in_X7_readOrder_7 (by decide) fl_X7_readOrder_212 rfl (by decide +kernel) rfl rfl (Nat.le_of_ble_eq_true rfl) rfl dX7_readOrder_146 ?_
            refine gx_Ss5 hW_18 hF_18 (fun f_19 hW_19 hF_19 => ?_)
            have hW_19 := isMS_same hW_19 (mC_5 y (p0 + 2) 0 (sg (y.1 4) n p0) a 0 0 _)
            refine gx_aload_n (q := 0) C dX7_readOrder_149 rfl ?_
            refine gx_get C (i := 9) (isMS_in hW_19 0 (Nat.le_of_ble_eq_true rfl)) (isMS_0 hW_19) rfl in_X7_readOrder_7 (by decide) fl_X7_readOrder_200 rfl dX7_readOrder_150 ?_
            refine gx_top ((sg (y.1 4) n p0)) rfl ?_
            refine gx_top (116) c_43 ?_
            refine gx_bipush (v := 98) C dX7_readOrder_153 (by decide) ?_
            refine gx_icmp_ne (tgt := 214) C dX7_readOrder_155 (by decide) (fun c_155 => ?_) (fun c_155 => ?_)
            refine gx_aload_n (q := 0) C dX7_readOrder_214 rfl ?_
            refine gx_get C (i := 9) (isMS_in hW_19 0 (Nat.le_of_ble_eq_true rfl)) (isMS_0 hW_19) rfl in_X7_readOrder_7 (by decide) fl_X7_readOrder_200 rfl dX7_readOrder_215 ?_
            refine gx_top ((sg (y.1 4) n p0)) rfl ?_
            refine gx_top (116) c_43 ?_
            refine gx_bipush (v := 116) C dX7_readOrder_218 (by decide) ?_
            refine gx_icmp_eq (tgt := 232) C dX7_readOrder_220 (by decide) (fun c_220 => ?_) (fun c_220 => ?_)
            refine gx_aload_n (q := 0) C dX7_readOrder_232 rfl ?_
            refine gx_aload_n (q := 0) C dX7_readOrder_233 rfl ?_
            refine gx_callR C (k_X7_sign l hW_19 hn hn2 (by omega)) (isMS_in hW_19 0 (Nat.le_of_ble_eq_true rfl)) (isMS_0 hW_19) rfl (cwV 0 C.2.2.2.2.1 gX7_readOrder_X7_sign rfl rfl rfl kdV_X7_sign ⟨Nat.le_of_ble_eq_true rfl, Nat.le_of_ble_eq_true rfl⟩) rfl rfl (Nat.le_of_ble_eq_true rfl) ⟨Nat.le_of_ble_eq_true rfl, Nat.le_of_ble_eq_true rfl⟩ dX7_readOrder_234 ?_
            refine gx_aload_n (q := 0) C dX7_readOrder_237 rfl ?_
            refine gx_get C (i := 9) (isMS_in hW_19 0 (Nat.le_of_ble_eq_true rfl)) (isMS_0 hW_19) rfl in_X7_readOrder_7 (by decide) fl_X7_readOrder_200 rfl dX7_readOrder_238 ?_
            refine gx_top ((sg (y.1 4) n p0)) rfl ?_
            refine gx_top (116) c_43 ?_
            refine gx_bipush (v := 116) C dX7_readOrder_241 (by decide) ?_
            refine gx_icmp_ne (tgt := 251) C dX7_readOrder_243 (by decide) (fun c_243 => ?_) (fun c_243 => ?_)
            exact absurd (by decide) c_243
            refine gx_bipush (v := 42) C dX7_readOrder_246 (by decide) ?_
            refine gx_goto (tgt := 253) C dX7_readOrder_248 (by decide) ?_
            refine gx_icmp_ne (tgt := 260) C dX7_readOrder_253 (by decide) (fun c_253 => ?_) (fun c_253 => ?_)
            · skip
              refine gx_iconst (v := 0) C dX7_readOrder_260 (by decide) ?_
              refine gx_callM C hD (k_X7_take0 l hL hW_19 hn hn2 (by omega) _ (bq := false) rfl) (isMS_in hW_19 0 (Nat.le_of_ble_eq_true rfl)) (isMS_0 hW_19) rfl (cwV 1 C.2.2.2.2.1 gX7_readOrder_X7_take rfl rfl rfl kdV_X7_take ⟨Nat.le_of_ble_eq_true rfl, Nat.le_of_ble_eq_true rfl⟩) rfl rfl (Nat.le_of_ble_eq_true rfl) ⟨Nat.le_of_ble_eq_true rfl, Nat.le_of_ble_eq_true rfl⟩ dX7_readOrder_261 (fun v_20 f_20 hp_20 => ?_)
              rcases hp_20 with ⟨hc_20_0, rfl, hW_20, hG_20⟩ | ⟨hc_20_0, rfl, hW_20, hG_20⟩
              · skip
                have hF_20 := gFr_tr hF_19 hG_20
                refine gx_nil ?_
                exact absurd hc_20_0 (by decide)
              · skip
                have hF_20 := gFr_tr hF_19 hG_20
                refine gx_nil ?_
                have hq_20_0 : false = false := hc_20_0
                refine gx_aload_n (q := 0) C dX7_readOrder_264 rfl ?_
                refine gx_aload_n (q := 0) C dX7_readOrder_265 rfl ?_
                refine gx_get C (i := 8) (isMS_in hW_20 0 (Nat.le_of_ble_eq_true rfl)) (isMS_0 hW_20) rfl in_X7_readOrder_7 (by decide) fl_X7_readOrder_186 rfl dX7_readOrder_266 ?_
                refine gx_top (1) rfl ?_
                refine gx_if_eq (tgt := 276) C dX7_readOrder_269 (by decide) (fun c_269 => ?_) (fun c_269 => ?_)
                exact absurd c_269 (by decide)
                refine gx_iconst (v := 0) C dX7_readOrder_272 (by decide) ?_
                refine gx_goto (tgt := 280) C dX7_readOrder_273 (by decide) ?_
                refine gx_put C hD (i := 11) (ty := .int) tyX7_ok nmX7 (isMS_in hW_20 0 (Nat.le_of_ble_eq_true rfl)) (isMS_0 hW_20) rfl in_X7_readOrder_7 (by decide) fl_X7_readOrder_203 rfl (by decide +kernel) rfl rfl (Nat.le_of_ble_eq_true rfl) rfl dX7_readOrder_280 ?_
                refine gx_Ss6 hW_20 hF_20 (fun f_21 hW_21 hF_21 => ?_)
                have hW_21 := isMS_same hW_21 (mC_6 y (p0 + 2) 1 (sg (y.1 4) n p0) (sg (y.1 4) n (p0 + 1) - 48) 0 0 _)
                exact gx_vretM C hr dX7_readOrder_283 (Or.inr (⟨(sg (y.1 4) n p0), (sg (y.1 4) n (p0 + 1) - 48), 0, 0, (by simp [ordr, c_25, c_34, c_43, c_253, hq_18_0]), rfl, (isMS_same hW_21 (by simp [ordr, c_25, c_34, c_43, c_253, hq_18_0])), hF_21⟩))
            · skip
              refine gx_iconst (v := 1) C dX7_readOrder_256 (by decide) ?_
              refine gx_goto (tgt := 261) C dX7_readOrder_257 (by decide) ?_
              refine gx_callM C hD (k_X7_take0 l hL hW_19 hn hn2 (by omega) _ (bq := true) rfl) (isMS_in hW_19 0 (Nat.le_of_ble_eq_true rfl)) (isMS_0 hW_19) rfl (cwV 1 C.2.2.2.2.1 gX7_readOrder_X7_take rfl rfl rfl kdV_X7_take ⟨Nat.le_of_ble_eq_true rfl, Nat.le_of_ble_eq_true rfl⟩) rfl rfl (Nat.le_of_ble_eq_true rfl) ⟨Nat.le_of_ble_eq_true rfl, Nat.le_of_ble_eq_true rfl⟩ dX7_readOrder_261 (fun v_22 f_22 hp_22 => ?_)
              rcases hp_22 with ⟨hc_22_0, rfl, hW_22, hG_22⟩ | ⟨hc_22_0, rfl, hW_22, hG_22⟩
              · skip
                have hF_22 := gFr_tr hF_19 hG_22
                refine gx_nil ?_
                have hq_22_0 : true = true := hc_22_0
                refine gx_aload_n (q := 0) C dX7_readOrder_264 rfl ?_
                refine gx_aload_n (q := 0) C dX7_readOrder_265 rfl ?_
                refine gx_get C (i := 8) (isMS_in hW_22 0 (Nat.le_of_ble_eq_true rfl)) (isMS_0 hW_22) rfl in_X7_readOrder_7 (by decide) fl_X7_readOrder_186 rfl dX7_readOrder_266 ?_
                refine gx_top (0) rfl ?_
                refine gx_if_eq (tgt := 276) C dX7_readOrder_269 (by decide) (fun c_269 => ?_) (fun c_269 => ?_)
                refine gx_aload_n (q := 0) C dX7_readOrder_276 rfl ?_
                refine gx_callM C hD (k_X7_readDigit l hL hW_22 hn hn2 (by omega)) (isMS_in hW_22 0 (Nat.le_of_ble_eq_true rfl)) (isMS_0 hW_22) rfl (cwV 0 C.2.2.2.2.1 gX7_readOrder_X7_readDigit rfl rfl rfl kdV_X7_readDigit ⟨Nat.le_of_ble_eq_true rfl, Nat.le_of_ble_eq_true rfl⟩) rfl rfl (Nat.le_of_ble_eq_true rfl) ⟨Nat.le_of_ble_eq_true rfl, Nat.le_of_ble_eq_true rfl⟩ dX7_readOrder_277 (fun v_23 f_23 hp_23 => ?_)
                rcases hp_23 with ⟨hc_23_0, rfl, hW_23, hG_23⟩ | ⟨hc_23_0, rfl, hW_23, hG_23⟩
                · skip
                  have hF_23 := gFr_tr hF_22 hG_23
                  refine gx_cons ?_
                  have hz_23 := sg_in hc_23_0
                  have hq_23_0 : isD (sg (y.1 4) n (p0 + 3)) = true := hc_23_0
                  refine gx_put C hD (i := 11) (ty := .int) tyX7_ok nmX7 (isMS_in hW_23 0 (Nat.le_of_ble_eq_true rfl)) (isMS_0 hW_23) rfl in_X7_readOrder_7 (by decide) fl_X7_readOrder_203 rfl (by decide +kernel) rfl rfl (Nat.le_of_ble_eq_true rfl) rfl dX7_readOrder_280 ?_
                  refine gx_Ss6 hW_23 hF_23 (fun f_24 hW_24 hF_24 => ?_)
                  have hW_24 := isMS_same hW_24 (mC_6 y (p0 + 4) 0 (sg (y.1 4) n p0) (sg (y.1 4) n (p0 + 1) - 48) 0 0 _)
                  exact gx_vretM C hr dX7_readOrder_283 (Or.inl ⟨(sg (y.1 4) n (p0 + 1) - 48), (by simp [ordr, c_25, c_34, c_43, c_253, hq_18_0, hq_23_0]), (by simp [ordr, c_25, c_34, c_43, c_253, hq_18_0, hq_23_0]), rfl, (isMS_same hW_24 (by simp [ordr, c_25, c_34, c_43, c_253, hq_18_0, hq_23_0])), hF_24⟩)
                · skip
                  have hF_23 := gFr_tr hF_22 hG_23
                  refine gx_cons ?_
                  have hq_23_0 : isD (sg (y.1 4) n (p0 + 3)) = false := hc_23_0
                  refine gx_put C hD (i := 11) (ty := .int) tyX7_ok nmX7 (isMS_in hW_23 0 (Nat.le_of_ble_eq_true rfl)) (isMS_0 hW_23) rfl in_X7_readOrder_7 (by decide) fl_X7_readOrder_203 rfl (by decide +kernel) rfl rfl (Nat.le_of_ble_eq_true rfl) rfl dX7_readOrder_280 ?_
                  refine gx_Ss6 hW_23 hF_23 (fun f_25 hW_25 hF_25 => ?_)
                  have hW_25 := isMS_same hW_25 (mC_6 y (p0 + 3) 1 (sg (y.1 4) n p0) (sg (y.1 4) n (p0 + 1) - 48) 0 0 _)
                  exact gx_vretM C hr dX7_readOrder_283 (Or.inr (⟨(sg (y.1 4) n p0), (sg (y.1 4) n (p0 + 1) - 48), (sg (y.1 4) n (p0 + 3) - 48), 0, (by simp [ordr, c_25, c_34, c_43, c_253, hq_18_0, hq_23_0]), rfl, (isMS_same hW_25 (by simp [ordr, c_25, c_34, c_43, c_253, hq_18_0, hq_23_0])), hF_25⟩))
                exact absurd (by decide) c_269
              · skip
                have hF_22 := gFr_tr hF_19 hG_22
                refine gx_nil ?_
                exact absurd hc_22_0 (by decide)
            exact absurd (by decide) c_220
            exact absurd c_155 (by decide)
          · skip
            have hF_18 := gFr_tr hF_17 hG_18
            refine gx_cons ?_
            have hq_18_0 : isD (sg (y.1 4) n (p0 + 1)) = false := hc_18_0
            refine gx_goto (tgt := 146) C dX7_readOrder_139 (by decide) ?_
            refine gx_put C hD (i := 10) (ty := .int) tyX7_ok nmX7 (isMS_in hW_18 0 (Nat.le_of_ble_eq_true rfl)) (isMS_0 hW_18) rfl in_X7_readOrder_7 (by decide) fl_X7_readOrder_212 rfl (by decide +kernel) rfl rfl (Nat.le_of_ble_eq_true rfl) rfl dX7_readOrder_146 ?_
            refine gx_Ss5 hW_18 hF_18 (fun f_26 hW_26 hF_26 => ?_)
            have hW_26 := isMS_same hW_26 (mC_5 y (p0 + 1) 1 (sg (y.1 4) n p0) a 0 0 _)
            refine gx_aload_n (q := 0) C dX7_readOrder_149 rfl ?_
            refine gx_get C (i := 9) (isMS_in hW_26 0 (Nat.le_of_ble_eq_true rfl)) (isMS_0 hW_26) rfl in_X7_readOrder_7 (by decide) fl_X7_readOrder_200 rfl dX7_readOrder_150 ?_
            refine gx_top ((sg (y.1 4) n p0)) rfl ?_
            refine gx_top (116) c_43 ?_
            refine gx_bipush (v := 98) C dX7_readOrder_153 (by decide) ?_
            refine gx_icmp_ne (tgt := 214) C dX7_readOrder_155 (by decide) (fun c_155 => ?_) (fun c_155 => ?_)
            refine gx_aload_n (q := 0) C dX7_readOrder_214 rfl ?_
            refine gx_get C (i := 9) (isMS_in hW_26 0 (Nat.le_of_ble_eq_true rfl)) (isMS_0 hW_26) rfl in_X7_readOrder_7 (by decide) fl_X7_readOrder_200 rfl dX7_readOrder_215 ?_
            refine gx_top ((sg (y.1 4) n p0)) rfl ?_
            refine gx_top (116) c_43 ?_
            refine gx_bipush (v := 116) C dX7_readOrder_218 (by decide) ?_
            refine gx_icmp_eq (tgt := 232) C dX7_readOrder_220 (by decide) (fun c_220 => ?_) (fun c_220 => ?_)
            refine gx_aload_n (q := 0) C dX7_readOrder_232 rfl ?_
            refine gx_aload_n (q := 0) C dX7_readOrder_233 rfl ?_
            refine gx_callR C (k_X7_sign l hW_26 hn hn2 (by omega)) (isMS_in hW_26 0 (Nat.le_of_ble_eq_true rfl)) (isMS_0 hW_26) rfl (cwV 0 C.2.2.2.2.1 gX7_readOrder_X7_sign rfl rfl rfl kdV_X7_sign ⟨Nat.le_of_ble_eq_true rfl, Nat.le_of_ble_eq_true rfl⟩) rfl rfl (Nat.le_of_ble_eq_true rfl) ⟨Nat.le_of_ble_eq_true rfl, Nat.le_of_ble_eq_true rfl⟩ dX7_readOrder_234 ?_
            refine gx_aload_n (q := 0) C dX7_readOrder_237 rfl ?_
            refine gx_get C (i := 9) (isMS_in hW_26 0 (Nat.le_of_ble_eq_true rfl)) (isMS_0 hW_26) rfl in_X7_readOrder_7 (by decide) fl_X7_readOrder_200 rfl dX7_readOrder_238 ?_
            refine gx_top ((sg (y.1 4) n p0)) rfl ?_
            refine gx_top (116) c_43 ?_
            refine gx_bipush (v := 116) C dX7_readOrder_241 (by decide) ?_
            refine gx_icmp_ne (tgt := 251) C dX7_readOrder_243 (by decide) (fun c_243 => ?_) (fun c_243 => ?_)
            exact absurd (by decide) c_243
            refine gx_bipush (v := 42) C dX7_readOrder_246 (by decide) ?_
            refine gx_goto (tgt := 253) C dX7_readOrder_248 (by decide) ?_
            refine gx_icmp_ne (tgt := 260) C dX7_readOrder_253 (by decide) (fun c_253 => ?_) (fun c_253 => ?_)
            · skip
              refine gx_iconst (v := 0) C dX7_readOrder_260 (by decide) ?_
              refine gx_callM C hD (k_X7_take1 l hL hW_26 hn hn2 (by omega) _) (isMS_in hW_26 0 (Nat.le_of_ble_eq_true rfl)) (isMS_0 hW_26) rfl (cwV 1 C.2.2.2.2.1 gX7_readOrder_X7_take rfl rfl rfl kdV_X7_take ⟨Nat.le_of_ble_eq_true rfl, Nat.le_of_ble_eq_true rfl⟩) rfl rfl (Nat.le_of_ble_eq_true rfl) ⟨Nat.le_of_ble_eq_true rfl, Nat.le_of_ble_eq_true rfl⟩ dX7_readOrder_261 (fun v_27 f_27 hp_27 => ?_)
              rcases hp_27 with ⟨rfl, hW_27, hG_27⟩
              · skip
                have hF_27 := gFr_tr hF_26 hG_27
                refine gx_nil ?_
                refine gx_aload_n (q := 0) C dX7_readOrder_264 rfl ?_
                refine gx_aload_n (q := 0) C dX7_readOrder_265 rfl ?_
                refine gx_get C (i := 8) (isMS_in hW_27 0 (Nat.le_of_ble_eq_true rfl)) (isMS_0 hW_27) rfl in_X7_readOrder_7 (by decide) fl_X7_readOrder_186 rfl dX7_readOrder_266 ?_
                refine gx_top (1) rfl ?_
                refine gx_if_eq (tgt := 276) C dX7_readOrder_269 (by decide) (fun c_269 => ?_) (fun c_269 => ?_)
                exact absurd c_269 (by decide)
                refine gx_iconst (v := 0) C dX7_readOrder_272 (by decide) ?_
                refine gx_goto (tgt := 280) C dX7_readOrder_273 (by decide) ?_
                refine gx_put C hD (i := 11) (ty := .int) tyX7_ok nmX7 (isMS_in hW_27 0 (Nat.le_of_ble_eq_true rfl)) (isMS_0 hW_27) rfl in_X7_readOrder_7 (by decide) fl_X7_readOrder_203 rfl (by decide +kernel) rfl rfl (Nat.le_of_ble_eq_true rfl) rfl dX7_readOrder_280 ?_
                refine gx_Ss6 hW_27 hF_27 (fun f_28 hW_28 hF_28 => ?_)
                have hW_28 := isMS_same hW_28 (mC_6 y (p0 + 1) 1 (sg (y.1 4) n p0) (sg (y.1 4) n (p0 + 1) - 48) 0 0 _)
                exact gx_vretM C hr dX7_readOrder_283 (Or.inr (⟨(sg (y.1 4) n p0), (sg (y.1 4) n (p0 + 1) - 48), 0, 0, (by simp [ordr, c_25, c_34, c_43, hq_18_0]), rfl, (isMS_same hW_28 (by simp [ordr, c_25, c_34, c_43, hq_18_0])), hF_28⟩))
            · skip
              refine gx_iconst (v := 1) C dX7_readOrder_256 (by decide) ?_
              refine gx_goto (tgt := 261) C dX7_readOrder_257 (by decide) ?_
              refine gx_callM C hD (k_X7_take1 l hL hW_26 hn hn2 (by omega) _) (isMS_in hW_26 0 (Nat.le_of_ble_eq_true rfl)) (isMS_0 hW_26) rfl (cwV 1 C.2.2.2.2.1 gX7_readOrder_X7_take rfl rfl rfl kdV_X7_take ⟨Nat.le_of_ble_eq_true rfl, Nat.le_of_ble_eq_true rfl⟩) rfl rfl (Nat.le_of_ble_eq_true rfl) ⟨Nat.le_of_ble_eq_true rfl, Nat.le_of_ble_eq_true rfl⟩ dX7_readOrder_261 (fun v_29 f_29 hp_29 => ?_)
              rcases hp_29 with ⟨rfl, hW_29, hG_29⟩
              · skip
                have hF_29 := gFr_tr hF_26 hG_29
                refine gx_nil ?_
                refine gx_aload_n (q := 0) C dX7_readOrder_264 rfl ?_
                refine gx_aload_n (q := 0) C dX7_readOrder_265 rfl ?_
                refine gx_get C (i := 8) (isMS_in hW_29 0 (Nat.le_of_ble_eq_true rfl)) (isMS_0 hW_29) rfl in_X7_readOrder_7 (by decide) fl_X7_readOrder_186 rfl dX7_readOrder_266 ?_
                refine gx_top (1) rfl ?_
                refine gx_if_eq (tgt := 276) C dX7_readOrder_269 (by decide) (fun c_269 => ?_) (fun c_269 => ?_)
                exact absurd c_269 (by decide)
                refine gx_iconst (v := 0) C dX7_readOrder_272 (by decide) ?_
                refine gx_goto (tgt := 280) C dX7_readOrder_273 (by decide) ?_
                refine gx_put C hD (i := 11) (ty := .int) tyX7_ok nmX7 (isMS_in hW_29 0 (Nat.le_of_ble_eq_true rfl)) (isMS_0 hW_29) rfl in_X7_readOrder_7 (by decide) fl_X7_readOrder_203 rfl (by decide +kernel) rfl rfl (Nat.le_of_ble_eq_true rfl) rfl dX7_readOrder_280 ?_
                refine gx_Ss6 hW_29 hF_29 (fun f_30 hW_30 hF_30 => ?_)
                have hW_30 := isMS_same hW_30 (mC_6 y (p0 + 1) 1 (sg (y.1 4) n p0) (sg (y.1 4) n (p0 + 1) - 48) 0 0 _)
                exact gx_vretM C hr dX7_readOrder_283 (Or.inr (⟨(sg (y.1 4) n p0), (sg (y.1 4) n (p0 + 1) - 48), 0, 0, (by simp [ordr, c_25, c_34, c_43, hq_18_0]), rfl, (isMS_same hW_30 (by simp [ordr, c_25, c_34, c_43, hq_18_0])), hF_30⟩))
            exact absurd (by decide) c_220
            exact absurd c_155 (by decide)
          exact absurd c_112 (by decide)
        · skip
          have hF_17 := gFr_tr hF_3 hG_17
          refine gx_nil ?_
          exact absurd hc_17_0 (by decide)
      · skip
        refine gx_aload_n (q := 0) C dX7_readOrder_46 rfl ?_
        refine gx_get C (i := 9) (isMS_in hW_3 0 (Nat.le_of_ble_eq_true rfl)) (isMS_0 hW_3) rfl in_X7_readOrder_7 (by decide) fl_X7_readOrder_200 rfl dX7_readOrder_47 ?_
        refine gx_top ((sg (y.1 4) n p0)) rfl ?_
        refine gx_bipush (v := 108) C dX7_readOrder_50 (by decide) ?_
        refine gx_icmp_eq (tgt := 91) C dX7_readOrder_52 (by decide) (fun c_52 => ?_) (fun c_52 => ?_)
        · skip
          have hz0 := sg_ne c_52 (by decide)
          refine gx_iconst (v := 1) C dX7_readOrder_91 (by decide) ?_
          refine gx_goto (tgt := 96) C dX7_readOrder_92 (by decide) ?_
          refine gx_callM C hD (k_X7_take0 l hL hW_3 hn hn2 (by omega) _ (bq := true) rfl) (isMS_in hW_3 0 (Nat.le_of_ble_eq_true rfl)) (isMS_0 hW_3) rfl (cwV 1 C.2.2.2.2.1 gX7_readOrder_X7_take rfl rfl rfl kdV_X7_take ⟨Nat.le_of_ble_eq_true rfl, Nat.le_of_ble_eq_true rfl⟩) rfl rfl (Nat.le_of_ble_eq_true rfl) ⟨Nat.le_of_ble_eq_true rfl, Nat.le_of_ble_eq_true rfl⟩ dX7_readOrder_96 (fun v_31 f_31 hp_31 => ?_)
          rcases hp_31 with ⟨hc_31_0, rfl, hW_31, hG_31⟩ | ⟨hc_31_0, rfl, hW_31, hG_31⟩
          · skip
            have hF_31 := gFr_tr hF_3 hG_31
            refine gx_nil ?_
            have hq_31_0 : true = true := hc_31_0
            refine gx_aload_n (q := 0) C dX7_readOrder_99 rfl ?_
            refine gx_get C (i := 8) (isMS_in hW_31 0 (Nat.le_of_ble_eq_true rfl)) (isMS_0 hW_31) rfl in_X7_readOrder_7 (by decide) fl_X7_readOrder_186 rfl dX7_readOrder_100 ?_
            refine gx_top (0) rfl ?_
            refine gx_if_ne (tgt := 115) C dX7_readOrder_103 (by decide) (fun c_103 => ?_) (fun c_103 => ?_)
            exact absurd (by decide) c_103
            refine gx_aload_n (q := 0) C dX7_readOrder_106 rfl ?_
            refine gx_get C (i := 9) (isMS_in hW_31 0 (Nat.le_of_ble_eq_true rfl)) (isMS_0 hW_31) rfl in_X7_readOrder_7 (by decide) fl_X7_readOrder_200 rfl dX7_readOrder_107 ?_
            refine gx_top ((sg (y.1 4) n p0)) rfl ?_
            refine gx_top (108) c_52 ?_
            refine gx_bipush (v := 112) C dX7_readOrder_110 (by decide) ?_
            refine gx_icmp_ne (tgt := 116) C dX7_readOrder_112 (by decide) (fun c_112 => ?_) (fun c_112 => ?_)
            refine gx_aload_n (q := 0) C dX7_readOrder_116 rfl ?_
            refine gx_aload_n (q := 0) C dX7_readOrder_117 rfl ?_
            refine gx_get C (i := 9) (isMS_in hW_31 0 (Nat.le_of_ble_eq_true rfl)) (isMS_0 hW_31) rfl in_X7_readOrder_7 (by decide) fl_X7_readOrder_200 rfl dX7_readOrder_118 ?_
            refine gx_top ((sg (y.1 4) n p0)) rfl ?_
            refine gx_top (108) c_52 ?_
            refine gx_bipush (v := 98) C dX7_readOrder_121 (by decide) ?_
            refine gx_icmp_eq (tgt := 135) C dX7_readOrder_123 (by decide) (fun c_123 => ?_) (fun c_123 => ?_)
            exact absurd c_123 (by decide)
            refine gx_aload_n (q := 0) C dX7_readOrder_126 rfl ?_
            refine gx_get C (i := 9) (isMS_in hW_31 0 (Nat.le_of_ble_eq_true rfl)) (isMS_0 hW_31) rfl in_X7_readOrder_7 (by decide) fl_X7_readOrder_200 rfl dX7_readOrder_127 ?_
            refine gx_top ((sg (y.1 4) n p0)) rfl ?_
            refine gx_top (108) c_52 ?_
            refine gx_bipush (v := 116) C dX7_readOrder_130 (by decide) ?_
            refine gx_icmp_ne (tgt := 142) C dX7_readOrder_132 (by decide) (fun c_132 => ?_) (fun c_132 => ?_)
            refine gx_aload_n (q := 0) C dX7_readOrder_142 rfl ?_
            refine gx_callM C hD (k_X7_readNumber l hL hW_31 hn hn2 (by omega)) (isMS_in hW_31 0 (Nat.le_of_ble_eq_true rfl)) (isMS_0 hW_31) rfl (cwV 0 C.2.2.2.2.1 gX7_readOrder_X7_readNumber rfl rfl rfl kdV_X7_readNumber ⟨Nat.le_of_ble_eq_true rfl, Nat.le_of_ble_eq_true rfl⟩) rfl rfl (Nat.le_of_ble_eq_true rfl) ⟨Nat.le_of_ble_eq_true rfl, Nat.le_of_ble_eq_true rfl⟩ dX7_readOrder_143 (fun v_32 f_32 hp_32 => ?_)
            rcases hp_32 with ⟨hc_32_0, rfl, hW_32, hG_32⟩ | ⟨hc_32_0, rfl, hW_32, hG_32⟩
            · skip
              have hF_32 := gFr_tr hF_31 hG_32
              refine gx_cons ?_
              have hz_32 := numE_b _ _ _ hc_32_0
              have hy_32 := numE_3 (y.1 4) n (p0 + 1)
              have hq_32_0 : isD (sg (y.1 4) n (p0 + 1)) = true := hc_32_0
              refine gx_put C hD (i := 10) (ty := .int) tyX7_ok nmX7 (isMS_in hW_32 0 (Nat.le_of_ble_eq_true rfl)) (isMS_0 hW_32) rfl in_X7_readOrder_7 (by decide) fl_X7_readOrder_212 rfl (by decide +kernel) rfl rfl (Nat.le_of_ble_eq_true rfl) rfl dX7_readOrder_146 ?_
              refine gx_Ss5 hW_32 hF_32 (fun f_33 hW_33 hF_33 => ?_)
              have hW_33 := isMS_same hW_33 (mC_5 y (numE (y.1 4) n (p0 + 1)) 0 (sg (y.1 4) n p0) a 0 0 _)
              refine gx_aload_n (q := 0) C dX7_readOrder_149 rfl ?_
              refine gx_get C (i := 9) (isMS_in hW_33 0 (Nat.le_of_ble_eq_true rfl)) (isMS_0 hW_33) rfl in_X7_readOrder_7 (by decide) fl_X7_readOrder_200 rfl dX7_readOrder_150 ?_
              refine gx_top ((sg (y.1 4) n p0)) rfl ?_
              refine gx_top (108) c_52 ?_
              refine gx_bipush (v := 98) C dX7_readOrder_153 (by decide) ?_
              refine gx_icmp_ne (tgt := 214) C dX7_readOrder_155 (by decide) (fun c_155 => ?_) (fun c_155 => ?_)
              refine gx_aload_n (q := 0) C dX7_readOrder_214 rfl ?_
              refine gx_get C (i := 9) (isMS_in hW_33 0 (Nat.le_of_ble_eq_true rfl)) (isMS_0 hW_33) rfl in_X7_readOrder_7 (by decide) fl_X7_readOrder_200 rfl dX7_readOrder_215 ?_
              refine gx_top ((sg (y.1 4) n p0)) rfl ?_
              refine gx_top (108) c_52 ?_
              refine gx_bipush (v := 116) C dX7_readOrder_218 (by decide) ?_
              refine gx_icmp_eq (tgt := 232) C dX7_readOrder_220 (by decide) (fun c_220 => ?_) (fun c_220 => ?_)
              exact absurd c_220 (by decide)
              refine gx_aload_n (q := 0) C dX7_readOrder_223 rfl ?_
              refine gx_get C (i := 9) (isMS_in hW_33 0 (Nat.le_of_ble_eq_true rfl)) (isMS_0 hW_33) rfl in_X7_readOrder_7 (by decide) fl_X7_readOrder_200 rfl dX7_readOrder_224 ?_
              refine gx_top ((sg (y.1 4) n p0)) rfl ?_
              refine gx_top (108) c_52 ?_
              refine gx_bipush (v := 103) C dX7_readOrder_227 (by decide) ?_
              refine gx_icmp_ne (tgt := 283) C dX7_readOrder_229 (by decide) (fun c_229 => ?_) (fun c_229 => ?_)
              exact gx_vretM C hr dX7_readOrder_283 (Or.inl ⟨(numV (y.1 4) n (p0 + 1)), (by simp [ordr, c_25, c_34, c_43, c_52, hq_32_0]), (by simp [ordr, c_25, c_34, c_43, c_52, hq_32_0]), rfl, (isMS_same hW_33 (by simp [ordr, c_25, c_34, c_43, c_52, hq_32_0])), hF_33⟩)
              exact absurd c_229 (by decide)
              exact absurd c_155 (by decide)
            · skip
              have hF_32 := gFr_tr hF_31 hG_32
              refine gx_cons ?_
              have hq_32_0 : isD (sg (y.1 4) n (p0 + 1)) = false := hc_32_0
              refine gx_put C hD (i := 10) (ty := .int) tyX7_ok nmX7 (isMS_in hW_32 0 (Nat.le_of_ble_eq_true rfl)) (isMS_0 hW_32) rfl in_X7_readOrder_7 (by decide) fl_X7_readOrder_212 rfl (by decide +kernel) rfl rfl (Nat.le_of_ble_eq_true rfl) rfl dX7_readOrder_146 ?_
              refine gx_Ss5 hW_32 hF_32 (fun f_34 hW_34 hF_34 => ?_)
              have hW_34 := isMS_same hW_34 (mC_5 y (p0 + 1) 1 (sg (y.1 4) n p0) a 0 0 _)
              refine gx_aload_n (q := 0) C dX7_readOrder_149 rfl ?_
              refine gx_get C (i := 9) (isMS_in hW_34 0 (Nat.le_of_ble_eq_true rfl)) (isMS_0 hW_34) rfl in_X7_readOrder_7 (by decide) fl_X7_readOrder_200 rfl dX7_readOrder_150 ?_
              refine gx_top ((sg (y.1 4) n p0)) rfl ?_
              refine gx_top (108) c_52 ?_
              refine gx_bipush (v := 98) C dX7_readOrder_153 (by decide) ?_
              refine gx_icmp_ne (tgt := 214) C dX7_readOrder_155 (by decide) (fun c_155 => ?_) (fun c_155 => ?_)
              refine gx_aload_n (q := 0) C dX7_readOrder_214 rfl ?_
              refine gx_get C (i := 9) (isMS_in hW_34 0 (Nat.le_of_ble_eq_true rfl)) (isMS_0 hW_34) rfl in_X7_readOrder_7 (by decide) fl_X7_readOrder_200 rfl dX7_readOrder_215 ?_
              refine gx_top ((sg (y.1 4) n p0)) rfl ?_
              refine gx_top (108) c_52 ?_
              refine gx_bipush (v := 116) C dX7_readOrder_218 (by decide) ?_
              refine gx_icmp_eq (tgt := 232) C dX7_readOrder_220 (by decide) (fun c_220 => ?_) (fun c_220 => ?_)
              exact absurd c_220 (by decide)
              refine gx_aload_n (q := 0) C dX7_readOrder_223 rfl ?_
              refine gx_get C (i := 9) (isMS_in hW_34 0 (Nat.le_of_ble_eq_true rfl)) (isMS_0 hW_34) rfl in_X7_readOrder_7 (by decide) fl_X7_readOrder_200 rfl dX7_readOrder_224 ?_
              refine gx_top ((sg (y.1 4) n p0)) rfl ?_
              refine gx_top (108) c_52 ?_
              refine gx_bipush (v := 103) C dX7_readOrder_227 (by decide) ?_
              refine gx_icmp_ne (tgt := 283) C dX7_readOrder_229 (by decide) (fun c_229 => ?_) (fun c_229 => ?_)
              exact gx_vretM C hr dX7_readOrder_283 (Or.inr (⟨(sg (y.1 4) n p0), (sg (y.1 4) n (p0 + 1) - 48), 0, 0, (by simp [ordr, c_25, c_34, c_43, c_52, hq_32_0]), rfl, (isMS_same hW_34 (by simp [ordr, c_25, c_34, c_43, c_52, hq_32_0])), hF_34⟩))
              exact absurd c_229 (by decide)
              exact absurd c_155 (by decide)
            exact absurd c_132 (by decide)
            exact absurd c_112 (by decide)
          · skip
            have hF_31 := gFr_tr hF_3 hG_31
            refine gx_nil ?_
            exact absurd hc_31_0 (by decide)
        · skip
          refine gx_aload_n (q := 0) C dX7_readOrder_55 rfl ?_
          refine gx_get C (i := 9) (isMS_in hW_3 0 (Nat.le_of_ble_eq_true rfl)) (isMS_0 hW_3) rfl in_X7_readOrder_7 (by decide) fl_X7_readOrder_200 rfl dX7_readOrder_56 ?_
          refine gx_top ((sg (y.1 4) n p0)) rfl ?_
          refine gx_bipush (v := 102) C dX7_readOrder_59 (by decide) ?_
          refine gx_icmp_eq (tgt := 91) C dX7_readOrder_61 (by decide) (fun c_61 => ?_) (fun c_61 => ?_)
          · skip
            have hz0 := sg_ne c_61 (by decide)
            refine gx_iconst (v := 1) C dX7_readOrder_91 (by decide) ?_
            refine gx_goto (tgt := 96) C dX7_readOrder_92 (by decide) ?_
            refine gx_callM C hD (k_X7_take0 l hL hW_3 hn hn2 (by omega) _ (bq := true) rfl) (isMS_in hW_3 0 (Nat.le_of_ble_eq_true rfl)) (isMS_0 hW_3) rfl (cwV 1 C.2.2.2.2.1 gX7_readOrder_X7_take rfl rfl rfl kdV_X7_take ⟨Nat.le_of_ble_eq_true rfl, Nat.le_of_ble_eq_true rfl⟩) rfl rfl (Nat.le_of_ble_eq_true rfl) ⟨Nat.le_of_ble_eq_true rfl, Nat.le_of_ble_eq_true rfl⟩ dX7_readOrder_96 (fun v_35 f_35 hp_35 => ?_)
            rcases hp_35 with ⟨hc_35_0, rfl, hW_35, hG_35⟩ | ⟨hc_35_0, rfl, hW_35, hG_35⟩
            · skip
              have hF_35 := gFr_tr hF_3 hG_35
              refine gx_nil ?_
              have hq_35_0 : true = true := hc_35_0
              refine gx_aload_n (q := 0) C dX7_readOrder_99 rfl ?_
              refine gx_get C (i := 8) (isMS_in hW_35 0 (Nat.le_of_ble_eq_true rfl)) (isMS_0 hW_35) rfl in_X7_readOrder_7 (by decide) fl_X7_readOrder_186 rfl dX7_readOrder_100 ?_
              refine gx_top (0) rfl ?_
              refine gx_if_ne (tgt := 115) C dX7_readOrder_103 (by decide) (fun c_103 => ?_) (fun c_103 => ?_)
              exact absurd (by decide) c_103
              refine gx_aload_n (q := 0) C dX7_readOrder_106 rfl ?_
              refine gx_get C (i := 9) (isMS_in hW_35 0 (Nat.le_of_ble_eq_true rfl)) (isMS_0 hW_35) rfl in_X7_readOrder_7 (by decide) fl_X7_readOrder_200 rfl dX7_readOrder_107 ?_
              refine gx_top ((sg (y.1 4) n p0)) rfl ?_
              refine gx_top (102) c_61 ?_
              refine gx_bipush (v := 112) C dX7_readOrder_110 (by decide) ?_
              refine gx_icmp_ne (tgt := 116) C dX7_readOrder_112 (by decide) (fun c_112 => ?_) (fun c_112 => ?_)
              refine gx_aload_n (q := 0) C dX7_readOrder_116 rfl ?_
              refine gx_aload_n (q := 0) C dX7_readOrder_117 rfl ?_
              refine gx_get C (i := 9) (isMS_in hW_35 0 (Nat.le_of_ble_eq_true rfl)) (isMS_0 hW_35) rfl in_X7_readOrder_7 (by decide) fl_X7_readOrder_200 rfl dX7_readOrder_118 ?_
              refine gx_top ((sg (y.1 4) n p0)) rfl ?_
              refine gx_top (102) c_61 ?_
              refine gx_bipush (v := 98) C dX7_readOrder_121 (by decide) ?_
              refine gx_icmp_eq (tgt := 135) C dX7_readOrder_123 (by decide) (fun c_123 => ?_) (fun c_123 => ?_)
              exact absurd c_123 (by decide)
              refine gx_aload_n (q := 0) C dX7_readOrder_126 rfl ?_
              refine gx_get C (i := 9) (isMS_in hW_35 0 (Nat.le_of_ble_eq_true rfl)) (isMS_0 hW_35) rfl in_X7_readOrder_7 (by decide) fl_X7_readOrder_200 rfl dX7_readOrder_127 ?_
              refine gx_top ((sg (y.1 4) n p0)) rfl ?_
              refine gx_top (102) c_61 ?_
              refine gx_bipush (v := 116) C dX7_readOrder_130 (by decide) ?_
              refine gx_icmp_ne (tgt := 142) C dX7_readOrder_132 (by decide) (fun c_132 => ?_) (fun c_132 => ?_)
              refine gx_aload_n (q := 0) C dX7_readOrder_142 rfl ?_
              refine gx_callM C hD (k_X7_readNumber l hL hW_35 hn hn2 (by omega)) (isMS_in hW_35 0 (Nat.le_of_ble_eq_true rfl)) (isMS_0 hW_35) rfl (cwV 0 C.2.2.2.2.1 gX7_readOrder_X7_readNumber rfl rfl rfl kdV_X7_readNumber ⟨Nat.le_of_ble_eq_true rfl, Nat.le_of_ble_eq_true rfl⟩) rfl rfl (Nat.le_of_ble_eq_true rfl) ⟨Nat.le_of_ble_eq_true rfl, Nat.le_of_ble_eq_true rfl⟩ dX7_readOrder_143 (fun v_36 f_36 hp_36 => ?_)
              rcases hp_36 with ⟨hc_36_0, rfl, hW_36, hG_36⟩ | ⟨hc_36_0, rfl, hW_36, hG_36⟩
              · skip
                have hF_36 := gFr_tr hF_35 hG_36
                refine gx_cons ?_
                have hz_36 := numE_b _ _ _ hc_36_0
                have hy_36 := numE_3 (y.1 4) n (p0 + 1)
                have hq_36_0 : isD (sg (y.1 4) n (p0 + 1)) = true := hc_36_0
                refine gx_put C hD (i := 10) (ty := .int) tyX7_ok nmX7 (isMS_in hW_36 0 (Nat.le_of_ble_eq_true rfl)) (isMS_0 hW_36) rfl in_X7_readOrder_7 (by decide) fl_X7_readOrder_212 rfl (by decide +kernel) rfl rfl (Nat.le_of_ble_eq_true rfl) rfl dX7_readOrder_146 ?_
                refine gx_Ss5 hW_36 hF_36 (fun f_37 hW_37 hF_37 => ?_)
                have hW_37 := isMS_same hW_37 (mC_5 y (numE (y.1 4) n (p0 + 1)) 0 (sg (y.1 4) n p0) a 0 0 _)
                refine gx_aload_n (q := 0) C dX7_readOrder_149 rfl ?_
                refine gx_get C (i := 9) (isMS_in hW_37 0 (Nat.le_of_ble_eq_true rfl)) (isMS_0 hW_37) rfl in_X7_readOrder_7 (by decide) fl_X7_readOrder_200 rfl dX7_readOrder_150 ?_
                refine gx_top ((sg (y.1 4) n p0)) rfl ?_
                refine gx_top (102) c_61 ?_
                refine gx_bipush (v := 98) C dX7_readOrder_153 (by decide) ?_
                refine gx_icmp_ne (tgt := 214) C dX7_readOrder_155 (by decide) (fun c_155 => ?_) (fun c_155 => ?_)
                refine gx_aload_n (q := 0) C dX7_readOrder_214 rfl ?_
                refine gx_get C (i := 9) (isMS_in hW_37 0 (Nat.le_of_ble_eq_true rfl)) (isMS_0 hW_37) rfl in_X7_readOrder_7 (by decide) fl_X7_readOrder_200 rfl dX7_readOrder_215 ?_
                refine gx_top ((sg (y.1 4) n p0)) rfl ?_
                refine gx_top (102) c_61 ?_
                refine gx_bipush (v := 116) C dX7_readOrder_218 (by decide) ?_
                refine gx_icmp_eq (tgt := 232) C dX7_readOrder_220 (by decide) (fun c_220 => ?_) (fun c_220 => ?_)
                exact absurd c_220 (by decide)
                refine gx_aload_n (q := 0) C dX7_readOrder_223 rfl ?_
                refine gx_get C (i := 9) (isMS_in hW_37 0 (Nat.le_of_ble_eq_true rfl)) (isMS_0 hW_37) rfl in_X7_readOrder_7 (by decide) fl_X7_readOrder_200 rfl dX7_readOrder_224 ?_
                refine gx_top ((sg (y.1 4) n p0)) rfl ?_
                refine gx_top (102) c_61 ?_
                refine gx_bipush (v := 103) C dX7_readOrder_227 (by decide) ?_
                refine gx_icmp_ne (tgt := 283) C dX7_readOrder_229 (by decide) (fun c_229 => ?_) (fun c_229 => ?_)
                exact gx_vretM C hr dX7_readOrder_283 (Or.inl ⟨(numV (y.1 4) n (p0 + 1)), (by simp [ordr, c_25, c_34, c_43, c_52, c_61, hq_36_0]), (by simp [ordr, c_25, c_34, c_43, c_52, c_61, hq_36_0]), rfl, (isMS_same hW_37 (by simp [ordr, c_25, c_34, c_43, c_52, c_61, hq_36_0])), hF_37⟩)
                exact absurd c_229 (by decide)
                exact absurd c_155 (by decide)
              · skip
                have hF_36 := gFr_tr hF_35 hG_36
                refine gx_cons ?_
                have hq_36_0 : isD (sg (y.1 4) n (p0 + 1)) = false := hc_36_0
                refine gx_put C hD (i := 10) (ty := .int) tyX7_ok nmX7 (isMS_in hW_36 0 (Nat.le_of_ble_eq_true rfl)) (isMS_0 hW_36) rfl in_X7_readOrder_7 (by decide) fl_X7_readOrder_212 rfl (by decide +kernel) rfl rfl (Nat.le_of_ble_eq_true rfl) rfl dX7_readOrder_146 ?_
                refine gx_Ss5 hW_36 hF_36 (fun f_38 hW_38 hF_38 => ?_)
                have hW_38 := isMS_same hW_38 (mC_5 y (p0 + 1) 1 (sg (y.1 4) n p0) a 0 0 _)
                refine gx_aload_n (q := 0) C dX7_readOrder_149 rfl ?_
                refine gx_get C (i := 9) (isMS_in hW_38 0 (Nat.le_of_ble_eq_true rfl)) (isMS_0 hW_38) rfl in_X7_readOrder_7 (by decide) fl_X7_readOrder_200 rfl dX7_readOrder_150 ?_
                refine gx_top ((sg (y.1 4) n p0)) rfl ?_
                refine gx_top (102) c_61 ?_
                refine gx_bipush (v := 98) C dX7_readOrder_153 (by decide) ?_
                refine gx_icmp_ne (tgt := 214) C dX7_readOrder_155 (by decide) (fun c_155 => ?_) (fun c_155 => ?_)
                refine gx_aload_n (q := 0) C dX7_readOrder_214 rfl ?_
                refine gx_get C (i := 9) (isMS_in hW_38 0 (Nat.le_of_ble_eq_true rfl)) (isMS_0 hW_38) rfl in_X7_readOrder_7 (by decide) fl_X7_readOrder_200 rfl dX7_readOrder_215 ?_
                refine gx_top ((sg (y.1 4) n p0)) rfl ?_
                refine gx_top (102) c_61 ?_
                refine gx_bipush (v := 116) C dX7_readOrder_218 (by decide) ?_
                refine gx_icmp_eq (tgt := 232) C dX7_readOrder_220 (by decide) (fun c_220 => ?_) (fun c_220 => ?_)
                exact absurd c_220 (by decide)
                refine gx_aload_n (q := 0) C dX7_readOrder_223 rfl ?_
                refine gx_get C (i := 9) (isMS_in hW_38 0 (Nat.le_of_ble_eq_true rfl)) (isMS_0 hW_38) rfl in_X7_readOrder_7 (by decide) fl_X7_readOrder_200 rfl dX7_readOrder_224 ?_
                refine gx_top ((sg (y.1 4) n p0)) rfl ?_
                refine gx_top (102) c_61 ?_
                refine gx_bipush (v := 103) C dX7_readOrder_227 (by decide) ?_
                refine gx_icmp_ne (tgt := 283) C dX7_readOrder_229 (by decide) (fun c_229 => ?_) (fun c_229 => ?_)
                exact gx_vretM C hr dX7_readOrder_283 (Or.inr (⟨(sg (y.1 4) n p0), (sg (y.1 4) n (p0 + 1) - 48), 0, 0, (by simp [ordr, c_25, c_34, c_43, c_52, c_61, hq_36_0]), rfl, (isMS_same hW_38 (by simp [ordr, c_25, c_34, c_43, c_52, c_61, hq_36_0])), hF_38⟩))
                exact absurd c_229 (by decide)
                exact absurd c_155 (by decide)
              exact absurd c_132 (by decide)
              exact absurd c_112 (by decide)
            · skip
              have hF_35 := gFr_tr hF_3 hG_35
              refine gx_nil ?_
              exact absurd hc_35_0 (by decide)
          · skip
            refine gx_aload_n (q := 0) C dX7_readOrder_64 rfl ?_
            refine gx_get C (i := 9) (isMS_in hW_3 0 (Nat.le_of_ble_eq_true rfl)) (isMS_0 hW_3) rfl in_X7_readOrder_7 (by decide) fl_X7_readOrder_200 rfl dX7_readOrder_65 ?_
            refine gx_top ((sg (y.1 4) n p0)) rfl ?_
            refine gx_bipush (v := 103) C dX7_readOrder_68 (by decide) ?_
            refine gx_icmp_eq (tgt := 91) C dX7_readOrder_70 (by decide) (fun c_70 => ?_) (fun c_70 => ?_)
            · skip
              have hz0 := sg_ne c_70 (by decide)
              refine gx_iconst (v := 1) C dX7_readOrder_91 (by decide) ?_
              refine gx_goto (tgt := 96) C dX7_readOrder_92 (by decide) ?_
              refine gx_callM C hD (k_X7_take0 l hL hW_3 hn hn2 (by omega) _ (bq := true) rfl) (isMS_in hW_3 0 (Nat.le_of_ble_eq_true rfl)) (isMS_0 hW_3) rfl (cwV 1 C.2.2.2.2.1 gX7_readOrder_X7_take rfl rfl rfl kdV_X7_take ⟨Nat.le_of_ble_eq_true rfl, Nat.le_of_ble_eq_true rfl⟩) rfl rfl (Nat.le_of_ble_eq_true rfl) ⟨Nat.le_of_ble_eq_true rfl, Nat.le_of_ble_eq_true rfl⟩ dX7_readOrder_96 (fun v_39 f_39 hp_39 => ?_)
              rcases hp_39 with ⟨hc_39_0, rfl, hW_39, hG_39⟩ | ⟨hc_39_0, rfl, hW_39, hG_39⟩
              · skip
                have hF_39 := gFr_tr hF_3 hG_39
                refine gx_nil ?_
                have hq_39_0 : true = true := hc_39_0
                refine gx_aload_n (q := 0) C dX7_readOrder_99 rfl ?_
                refine gx_get C (i := 8) (isMS_in hW_39 0 (Nat.le_of_ble_eq_true rfl)) (isMS_0 hW_39) rfl in_X7_readOrder_7 (by decide) fl_X7_readOrder_186 rfl dX7_readOrder_100 ?_
                refine gx_top (0) rfl ?_
                refine gx_if_ne (tgt := 115) C dX7_readOrder_103 (by decide) (fun c_103 => ?_) (fun c_103 => ?_)
                exact absurd (by decide) c_103
                refine gx_aload_n (q := 0) C dX7_readOrder_106 rfl ?_
                refine gx_get C (i := 9) (isMS_in hW_39 0 (Nat.le_of_ble_eq_true rfl)) (isMS_0 hW_39) rfl in_X7_readOrder_7 (by decide) fl_X7_readOrder_200 rfl dX7_readOrder_107 ?_
                refine gx_top ((sg (y.1 4) n p0)) rfl ?_
                refine gx_top (103) c_70 ?_
                refine gx_bipush (v := 112) C dX7_readOrder_110 (by decide) ?_
                refine gx_icmp_ne (tgt := 116) C dX7_readOrder_112 (by decide) (fun c_112 => ?_) (fun c_112 => ?_)
                refine gx_aload_n (q := 0) C dX7_readOrder_116 rfl ?_
                refine gx_aload_n (q := 0) C dX7_readOrder_117 rfl ?_
                refine gx_get C (i := 9) (isMS_in hW_39 0 (Nat.le_of_ble_eq_true rfl)) (isMS_0 hW_39) rfl in_X7_readOrder_7 (by decide) fl_X7_readOrder_200 rfl dX7_readOrder_118 ?_
                refine gx_top ((sg (y.1 4) n p0)) rfl ?_
                refine gx_top (103) c_70 ?_
                refine gx_bipush (v := 98) C dX7_readOrder_121 (by decide) ?_
                refine gx_icmp_eq (tgt := 135) C dX7_readOrder_123 (by decide) (fun c_123 => ?_) (fun c_123 => ?_)
                exact absurd c_123 (by decide)
                refine gx_aload_n (q := 0) C dX7_readOrder_126 rfl ?_
                refine gx_get C (i := 9) (isMS_in hW_39 0 (Nat.le_of_ble_eq_true rfl)) (isMS_0 hW_39) rfl in_X7_readOrder_7 (by decide) fl_X7_readOrder_200 rfl dX7_readOrder_127 ?_
                refine gx_top ((sg (y.1 4) n p0)) rfl ?_
                refine gx_top (103) c_70 ?_
                refine gx_bipush (v := 116) C dX7_readOrder_130 (by decide) ?_
                refine gx_icmp_ne (tgt := 142) C dX7_readOrder_132 (by decide) (fun c_132 => ?_) (fun c_132 => ?_)
                refine gx_aload_n (q := 0) C dX7_readOrder_142 rfl ?_
                refine gx_callM C hD (k_X7_readNumber l hL hW_39 hn hn2 (by omega)) (isMS_in hW_39 0 (Nat.le_of_ble_eq_true rfl)) (isMS_0 hW_39) rfl (cwV 0 C.2.2.2.2.1 gX7_readOrder_X7_readNumber rfl rfl rfl kdV_X7_readNumber ⟨Nat.le_of_ble_eq_true rfl, Nat.le_of_ble_eq_true rfl⟩) rfl rfl (Nat.le_of_ble_eq_true rfl) ⟨Nat.le_of_ble_eq_true rfl, Nat.le_of_ble_eq_true rfl⟩ dX7_readOrder_143 (fun v_40 f_40 hp_40 => ?_)
                rcases hp_40 with ⟨hc_40_0, rfl, hW_40, hG_40⟩ | ⟨hc_40_0, rfl, hW_40, hG_40⟩
                · skip
                  have hF_40 := gFr_tr hF_39 hG_40
                  refine gx_cons ?_
                  have hz_40 := numE_b _ _ _ hc_40_0
                  have hy_40 := numE_3 (y.1 4) n (p0 + 1)
                  have hq_40_0 : isD (sg (y.1 4) n (p0 + 1)) = true := hc_40_0
                  refine gx_put C hD (i := 10) (ty := .int) tyX7_ok nmX7 (isMS_in hW_40 0 (Nat.le_of_ble_eq_true rfl)) (isMS_0 hW_40) rfl in_X7_readOrder_7 (by decide) fl_X7_readOrder_212 rfl (by decide +kernel) rfl rfl (Nat.le_of_ble_eq_true rfl) rfl dX7_readOrder_146 ?_
                  refine gx_Ss5 hW_40 hF_40 (fun f_41 hW_41 hF_41 => ?_)
                  have hW_41 := isMS_same hW_41 (mC_5 y (numE (y.1 4) n (p0 + 1)) 0 (sg (y.1 4) n p0) a 0 0 _)
                  refine gx_aload_n (q := 0) C dX7_readOrder_149 rfl ?_
                  refine gx_get C (i := 9) (isMS_in hW_41 0 (Nat.le_of_ble_eq_true rfl)) (isMS_0 hW_41) rfl in_X7_readOrder_7 (by decide) fl_X7_readOrder_200 rfl dX7_readOrder_150 ?_
                  refine gx_top ((sg (y.1 4) n p0)) rfl ?_
                  refine gx_top (103) c_70 ?_
                  refine gx_bipush (v := 98) C dX7_readOrder_153 (by decide) ?_
                  refine gx_icmp_ne (tgt := 214) C dX7_readOrder_155 (by decide) (fun c_155 => ?_) (fun c_155 => ?_)
                  refine gx_aload_n (q := 0) C dX7_readOrder_214 rfl ?_
                  refine gx_get C (i := 9) (isMS_in hW_41 0 (Nat.le_of_ble_eq_true rfl)) (isMS_0 hW_41) rfl in_X7_readOrder_7 (by decide) fl_X7_readOrder_200 rfl dX7_readOrder_215 ?_
                  refine gx_top ((sg (y.1 4) n p0)) rfl ?_
                  refine gx_top (103) c_70 ?_
                  refine gx_bipush (v := 116) C dX7_readOrder_218 (by decide) ?_
                  refine gx_icmp_eq (tgt := 232) C dX7_readOrder_220 (by decide) (fun c_220 => ?_) (fun c_220 => ?_)
                  exact absurd c_220 (by decide)
                  refine gx_aload_n (q := 0) C dX7_readOrder_223 rfl ?_
                  refine gx_get C (i := 9) (isMS_in hW_41 0 (Nat.le_of_ble_eq_true rfl)) (isMS_0 hW_41) rfl in_X7_readOrder_7 (by decide) fl_X7_readOrder_200 rfl dX7_readOrder_224 ?_
                  refine gx_top ((sg (y.1 4) n p0)) rfl ?_
                  refine gx_top (103) c_70 ?_
                  refine gx_bipush (v := 103) C dX7_readOrder_227 (by decide) ?_
                  refine gx_icmp_ne (tgt := 283) C dX7_readOrder_229 (by decide) (fun c_229 => ?_) (fun c_229 => ?_)
                  exact absurd (by decide) c_229
                  refine gx_aload_n (q := 0) C dX7_readOrder_232 rfl ?_
                  refine gx_aload_n (q := 0) C dX7_readOrder_233 rfl ?_
                  refine gx_callR C (k_X7_sign l hW_41 hn hn2 (by omega)) (isMS_in hW_41 0 (Nat.le_of_ble_eq_true rfl)) (isMS_0 hW_41) rfl (cwV 0 C.2.2.2.2.1 gX7_readOrder_X7_sign rfl rfl rfl kdV_X7_sign ⟨Nat.le_of_ble_eq_true rfl, Nat.le_of_ble_eq_true rfl⟩) rfl rfl (Nat.le_of_ble_eq_true rfl) ⟨Nat.le_of_ble_eq_true rfl, Nat.le_of_ble_eq_true rfl⟩ dX7_readOrder_234 ?_
                  refine gx_aload_n (q := 0) C dX7_readOrder_237 rfl ?_
                  refine gx_get C (i := 9) (isMS_in hW_41 0 (Nat.le_of_ble_eq_true rfl)) (isMS_0 hW_41) rfl in_X7_readOrder_7 (by decide) fl_X7_readOrder_200 rfl dX7_readOrder_238 ?_
                  refine gx_top ((sg (y.1 4) n p0)) rfl ?_
                  refine gx_top (103) c_70 ?_
                  refine gx_bipush (v := 116) C dX7_readOrder_241 (by decide) ?_
                  refine gx_icmp_ne (tgt := 251) C dX7_readOrder_243 (by decide) (fun c_243 => ?_) (fun c_243 => ?_)
                  refine gx_bipush (v := 46) C dX7_readOrder_251 (by decide) ?_
                  refine gx_icmp_ne (tgt := 260) C dX7_readOrder_253 (by decide) (fun c_253 => ?_) (fun c_253 => ?_)
                  · skip
                    refine gx_iconst (v := 0) C dX7_readOrder_260 (by decide) ?_
                    refine gx_callM C hD (k_X7_take0 l hL hW_41 hn hn2 (by omega) _ (bq := false) rfl) (isMS_in hW_41 0 (Nat.le_of_ble_eq_true rfl)) (isMS_0 hW_41) rfl (cwV 1 C.2.2.2.2.1 gX7_readOrder_X7_take rfl rfl rfl kdV_X7_take ⟨Nat.le_of_ble_eq_true rfl, Nat.le_of_ble_eq_true rfl⟩) rfl rfl (Nat.le_of_ble_eq_true rfl) ⟨Nat.le_of_ble_eq_true rfl, Nat.le_of_ble_eq_true rfl⟩ dX7_readOrder_261 (fun v_42 f_42 hp_42 => ?_)
                    rcases hp_42 with ⟨hc_42_0, rfl, hW_42, hG_42⟩ | ⟨hc_42_0, rfl, hW_42, hG_42⟩
                    · skip
                      have hF_42 := gFr_tr hF_41 hG_42
                      refine gx_nil ?_
                      exact absurd hc_42_0 (by decide)
                    · skip
                      have hF_42 := gFr_tr hF_41 hG_42
                      refine gx_nil ?_
                      have hq_42_0 : false = false := hc_42_0
                      refine gx_aload_n (q := 0) C dX7_readOrder_264 rfl ?_
                      refine gx_aload_n (q := 0) C dX7_readOrder_265 rfl ?_
                      refine gx_get C (i := 8) (isMS_in hW_42 0 (Nat.le_of_ble_eq_true rfl)) (isMS_0 hW_42) rfl in_X7_readOrder_7 (by decide) fl_X7_readOrder_186 rfl dX7_readOrder_266 ?_
                      refine gx_top (1) rfl ?_
                      refine gx_if_eq (tgt := 276) C dX7_readOrder_269 (by decide) (fun c_269 => ?_) (fun c_269 => ?_)
                      exact absurd c_269 (by decide)
                      refine gx_iconst (v := 0) C dX7_readOrder_272 (by decide) ?_
                      refine gx_goto (tgt := 280) C dX7_readOrder_273 (by decide) ?_
                      refine gx_put C hD (i := 11) (ty := .int) tyX7_ok nmX7 (isMS_in hW_42 0 (Nat.le_of_ble_eq_true rfl)) (isMS_0 hW_42) rfl in_X7_readOrder_7 (by decide) fl_X7_readOrder_203 rfl (by decide +kernel) rfl rfl (Nat.le_of_ble_eq_true rfl) rfl dX7_readOrder_280 ?_
                      refine gx_Ss6 hW_42 hF_42 (fun f_43 hW_43 hF_43 => ?_)
                      have hW_43 := isMS_same hW_43 (mC_6 y (numE (y.1 4) n (p0 + 1)) 1 (sg (y.1 4) n p0) (numV (y.1 4) n (p0 + 1)) 0 0 _)
                      exact gx_vretM C hr dX7_readOrder_283 (Or.inr (⟨(sg (y.1 4) n p0), (numV (y.1 4) n (p0 + 1)), 0, 0, (by simp [ordr, c_25, c_34, c_43, c_52, c_61, c_70, c_253, hq_40_0]), rfl, (isMS_same hW_43 (by simp [ordr, c_25, c_34, c_43, c_52, c_61, c_70, c_253, hq_40_0])), hF_43⟩))
                  · skip
                    refine gx_iconst (v := 1) C dX7_readOrder_256 (by decide) ?_
                    refine gx_goto (tgt := 261) C dX7_readOrder_257 (by decide) ?_
                    refine gx_callM C hD (k_X7_take0 l hL hW_41 hn hn2 (by omega) _ (bq := true) rfl) (isMS_in hW_41 0 (Nat.le_of_ble_eq_true rfl)) (isMS_0 hW_41) rfl (cwV 1 C.2.2.2.2.1 gX7_readOrder_X7_take rfl rfl rfl kdV_X7_take ⟨Nat.le_of_ble_eq_true rfl, Nat.le_of_ble_eq_true rfl⟩) rfl rfl (Nat.le_of_ble_eq_true rfl) ⟨Nat.le_of_ble_eq_true rfl, Nat.le_of_ble_eq_true rfl⟩ dX7_readOrder_261 (fun v_44 f_44 hp_44 => ?_)
                    rcases hp_44 with ⟨hc_44_0, rfl, hW_44, hG_44⟩ | ⟨hc_44_0, rfl, hW_44, hG_44⟩
                    · skip
                      have hF_44 := gFr_tr hF_41 hG_44
                      refine gx_nil ?_
                      have hq_44_0 : true = true := hc_44_0
                      refine gx_aload_n (q := 0) C dX7_readOrder_264 rfl ?_
                      refine gx_aload_n (q := 0) C dX7_readOrder_265 rfl ?_
                      refine gx_get C (i := 8) (isMS_in hW_44 0 (Nat.le_of_ble_eq_true rfl)) (isMS_0 hW_44) rfl in_X7_readOrder_7 (by decide) fl_X7_readOrder_186 rfl dX7_readOrder_266 ?_
                      refine gx_top (0) rfl ?_
                      refine gx_if_eq (tgt := 276) C dX7_readOrder_269 (by decide) (fun c_269 => ?_) (fun c_269 => ?_)
                      refine gx_aload_n (q := 0) C dX7_readOrder_276 rfl ?_
                      refine gx_callM C hD (k_X7_readDigit l hL hW_44 hn hn2 (by omega)) (isMS_in hW_44 0 (Nat.le_of_ble_eq_true rfl)) (isMS_0 hW_44) rfl (cwV 0 C.2.2.2.2.1 gX7_readOrder_X7_readDigit rfl rfl rfl kdV_X7_readDigit ⟨Nat.le_of_ble_eq_true rfl, Nat.le_of_ble_eq_true rfl⟩) rfl rfl (Nat.le_of_ble_eq_true rfl) ⟨Nat.le_of_ble_eq_true rfl, Nat.le_of_ble_eq_true rfl⟩ dX7_readOrder_277 (fun v_45 f_45 hp_45 => ?_)
                      rcases hp_45 with ⟨hc_45_0, rfl, hW_45, hG_45⟩ | ⟨hc_45_0, rfl, hW_45, hG_45⟩
                      · skip
                        have hF_45 := gFr_tr hF_44 hG_45
                        refine gx_cons ?_
                        have hz_45 := sg_in hc_45_0
                        have hq_45_0 : isD (sg (y.1 4) n ((numE (y.1 4) n (p0 + 1)) + 1)) = true := hc_45_0
                        refine gx_put C hD (i := 11) (ty := .int) tyX7_ok nmX7 (isMS_in hW_45 0 (Nat.le_of_ble_eq_true rfl)) (isMS_0 hW_45) rfl in_X7_readOrder_7 (by decide) fl_X7_readOrder_203 rfl (by decide +kernel) rfl rfl (Nat.le_of_ble_eq_true rfl) rfl dX7_readOrder_280 ?_
                        refine gx_Ss6 hW_45 hF_45 (fun f_46 hW_46 hF_46 => ?_)
                        have hW_46 := isMS_same hW_46 (mC_6 y (((numE (y.1 4) n (p0 + 1)) + 1) + 1) 0 (sg (y.1 4) n p0) (numV (y.1 4) n (p0 + 1)) 0 0 _)
                        exact gx_vretM C hr dX7_readOrder_283 (Or.inl ⟨(numV (y.1 4) n (p0 + 1)), (by simp [ordr, c_25, c_34, c_43, c_52, c_61, c_70, c_253, hq_40_0, hq_45_0]), (by simp [ordr, c_25, c_34, c_43, c_52, c_61, c_70, c_253, hq_40_0, hq_45_0]), rfl, (isMS_same hW_46 (by simp [ordr, c_25, c_34, c_43, c_52, c_61, c_70, c_253, hq_40_0, hq_45_0])), hF_46⟩)
                      · skip
                        have hF_45 := gFr_tr hF_44 hG_45
                        refine gx_cons ?_
                        have hq_45_0 : isD (sg (y.1 4) n ((numE (y.1 4) n (p0 + 1)) + 1)) = false := hc_45_0
                        refine gx_put C hD (i := 11) (ty := .int) tyX7_ok nmX7 (isMS_in hW_45 0 (Nat.le_of_ble_eq_true rfl)) (isMS_0 hW_45) rfl in_X7_readOrder_7 (by decide) fl_X7_readOrder_203 rfl (by decide +kernel) rfl rfl (Nat.le_of_ble_eq_true rfl) rfl dX7_readOrder_280 ?_
                        refine gx_Ss6 hW_45 hF_45 (fun f_47 hW_47 hF_47 => ?_)
                        have hW_47 := isMS_same hW_47 (mC_6 y ((numE (y.1 4) n (p0 + 1)) + 1) 1 (sg (y.1 4) n p0) (numV (y.1 4) n (p0 + 1)) 0 0 _)
                        exact gx_vretM C hr dX7_readOrder_283 (Or.inr (⟨(sg (y.1 4) n p0), (numV (y.1 4) n (p0 + 1)), (sg (y.1 4) n ((numE (y.1 4) n (p0 + 1)) + 1) - 48), 0, (by simp [ordr, c_25, c_34, c_43, c_52, c_61, c_70, c_253, hq_40_0, hq_45_0]), rfl, (isMS_same hW_47 (by simp [ordr, c_25, c_34, c_43, c_52, c_61, c_70, c_253, hq_40_0, hq_45_0])), hF_47⟩))
                      exact absurd (by decide) c_269
                    · skip
                      have hF_44 := gFr_tr hF_41 hG_44
                      refine gx_nil ?_
                      exact absurd hc_44_0 (by decide)
                  exact absurd c_243 (by decide)
                  exact absurd c_155 (by decide)
                · skip
                  have hF_40 := gFr_tr hF_39 hG_40
                  refine gx_cons ?_
                  have hq_40_0 : isD (sg (y.1 4) n (p0 + 1)) = false := hc_40_0
                  refine gx_put C hD (i := 10) (ty := .int) tyX7_ok nmX7 (isMS_in hW_40 0 (Nat.le_of_ble_eq_true rfl)) (isMS_0 hW_40) rfl in_X7_readOrder_7 (by decide) fl_X7_readOrder_212 rfl (by decide +kernel) rfl rfl (Nat.le_of_ble_eq_true rfl) rfl dX7_readOrder_146 ?_
                  refine gx_Ss5 hW_40 hF_40 (fun f_48 hW_48 hF_48 => ?_)
                  have hW_48 := isMS_same hW_48 (mC_5 y (p0 + 1) 1 (sg (y.1 4) n p0) a 0 0 _)
                  refine gx_aload_n (q := 0) C dX7_readOrder_149 rfl ?_
                  refine gx_get C (i := 9) (isMS_in hW_48 0 (Nat.le_of_ble_eq_true rfl)) (isMS_0 hW_48) rfl in_X7_readOrder_7 (by decide) fl_X7_readOrder_200 rfl dX7_readOrder_150 ?_
                  refine gx_top ((sg (y.1 4) n p0)) rfl ?_
                  refine gx_top (103) c_70 ?_
                  refine gx_bipush (v := 98) C dX7_readOrder_153 (by decide) ?_
                  refine gx_icmp_ne (tgt := 214) C dX7_readOrder_155 (by decide) (fun c_155 => ?_) (fun c_155 => ?_)
                  refine gx_aload_n (q := 0) C dX7_readOrder_214 rfl ?_
                  refine gx_get C (i := 9) (isMS_in hW_48 0 (Nat.le_of_ble_eq_true rfl)) (isMS_0 hW_48) rfl in_X7_readOrder_7 (by decide) fl_X7_readOrder_200 rfl dX7_readOrder_215 ?_
                  refine gx_top ((sg (y.1 4) n p0)) rfl ?_
                  refine gx_top (103) c_70 ?_
                  refine gx_bipush (v := 116) C dX7_readOrder_218 (by decide) ?_
                  refine gx_icmp_eq (tgt := 232) C dX7_readOrder_220 (by decide) (fun c_220 => ?_) (fun c_220 => ?_)
                  exact absurd c_220 (by decide)
                  refine gx_aload_n (q := 0) C dX7_readOrder_223 rfl ?_
                  refine gx_get C (i := 9) (isMS_in hW_48 0 (Nat.le_of_ble_eq_true rfl)) (isMS_0 hW_48) rfl in_X7_readOrder_7 (by decide) fl_X7_readOrder_200 rfl dX7_readOrder_224 ?_
                  refine gx_top ((sg (y.1 4) n p0)) rfl ?_
                  refine gx_top (103) c_70 ?_
                  refine gx_bipush (v := 103) C dX7_readOrder_227 (by decide) ?_
                  refine gx_icmp_ne (tgt := 283) C dX7_readOrder_229 (by decide) (fun c_229 => ?_) (fun c_229 => ?_)
                  exact absurd (by decide) c_229
                  refine gx_aload_n (q := 0) C dX7_readOrder_232 rfl ?_
                  refine gx_aload_n (q := 0) C dX7_readOrder_233 rfl ?_
                  refine gx_callR C (k_X7_sign l hW_48 hn hn2 (by omega)) (isMS_in hW_48 0 (Nat.le_of_ble_eq_true rfl)) (isMS_0 hW_48) rfl (cwV 0 C.2.2.2.2.1 gX7_readOrder_X7_sign rfl rfl rfl kdV_X7_sign ⟨Nat.le_of_ble_eq_true rfl, Nat.le_of_ble_eq_true rfl⟩) rfl rfl (Nat.le_of_ble_eq_true rfl) ⟨Nat.le_of_ble_eq_true rfl, Nat.le_of_ble_eq_true rfl⟩ dX7_readOrder_234 ?_
                  refine gx_aload_n (q := 0) C dX7_readOrder_237 rfl ?_
                  refine gx_get C (i := 9) (isMS_in hW_48 0 (Nat.le_of_ble_eq_true rfl)) (isMS_0 hW_48) rfl in_X7_readOrder_7 (by decide) fl_X7_readOrder_200 rfl dX7_readOrder_238 ?_
                  refine gx_top ((sg (y.1 4) n p0)) rfl ?_
                  refine gx_top (103) c_70 ?_
                  refine gx_bipush (v := 116) C dX7_readOrder_241 (by decide) ?_
                  refine gx_icmp_ne (tgt := 251) C dX7_readOrder_243 (by decide) (fun c_243 => ?_) (fun c_243 => ?_)
                  refine gx_bipush (v := 46) C dX7_readOrder_251 (by decide) ?_
                  refine gx_icmp_ne (tgt := 260) C dX7_readOrder_253 (by decide) (fun c_253 => ?_) (fun c_253 => ?_)
                  · skip
                    refine gx_iconst (v := 0) C dX7_readOrder_260 (by decide) ?_
                    refine gx_callM C hD (k_X7_take1 l hL hW_48 hn hn2 (by omega) _) (isMS_in hW_48 0 (Nat.le_of_ble_eq_true rfl)) (isMS_0 hW_48) rfl (cwV 1 C.2.2.2.2.1 gX7_readOrder_X7_take rfl rfl rfl kdV_X7_take ⟨Nat.le_of_ble_eq_true rfl, Nat.le_of_ble_eq_true rfl⟩) rfl rfl (Nat.le_of_ble_eq_true rfl) ⟨Nat.le_of_ble_eq_true rfl, Nat.le_of_ble_eq_true rfl⟩ dX7_readOrder_261 (fun v_49 f_49 hp_49 => ?_)
                    rcases hp_49 with ⟨rfl, hW_49, hG_49⟩
                    · skip
                      have hF_49 := gFr_tr hF_48 hG_49
                      refine gx_nil ?_
                      refine gx_aload_n (q := 0) C dX7_readOrder_264 rfl ?_
                      refine gx_aload_n (q := 0) C dX7_readOrder_265 rfl ?_
                      refine gx_get C (i := 8) (isMS_in hW_49 0 (Nat.le_of_ble_eq_true rfl)) (isMS_0 hW_49) rfl in_X7_readOrder_7 (by decide) fl_X7_readOrder_186 rfl dX7_readOrder_266 ?_
                      refine gx_top (1) rfl ?_
                      refine gx_if_eq (tgt := 276) C dX7_readOrder_269 (by decide) (fun c_269 => ?_) (fun c_269 => ?_)
                      exact absurd c_269 (by decide)
                      refine gx_iconst (v := 0) C dX7_readOrder_272 (by decide) ?_
                      refine gx_goto (tgt := 280) C dX7_readOrder_273 (by decide) ?_
                      refine gx_put C hD (i := 11) (ty := .int) tyX7_ok nmX7 (isMS_in hW_49 0 (Nat.le_of_ble_eq_true rfl)) (isMS_0 hW_49) rfl in_X7_readOrder_7 (by decide) fl_X7_readOrder_203 rfl (by decide +kernel) rfl rfl (Nat.le_of_ble_eq_true rfl) rfl dX7_readOrder_280 ?_
                      refine gx_Ss6 hW_49 hF_49 (fun f_50 hW_50 hF_50 => ?_)
                      have hW_50 := isMS_same hW_50 (mC_6 y (p0 + 1) 1 (sg (y.1 4) n p0) (sg (y.1 4) n (p0 + 1) - 48) 0 0 _)
                      exact gx_vretM C hr dX7_readOrder_283 (Or.inr (⟨(sg (y.1 4) n p0), (sg (y.1 4) n (p0 + 1) - 48), 0, 0, (by simp [ordr, c_25, c_34, c_43, c_52, c_61, c_70, hq_40_0]), rfl, (isMS_same hW_50 (by simp [ordr, c_25, c_34, c_43, c_52, c_61, c_70, hq_40_0])), hF_50⟩))
                  · skip
                    refine gx_iconst (v := 1) C dX7_readOrder_256 (by decide) ?_
                    refine gx_goto (tgt := 261) C dX7_readOrder_257 (by decide) ?_
                    refine gx_callM C hD (k_X7_take1 l hL hW_48 hn hn2 (by omega) _) (isMS_in hW_48 0 (Nat.le_of_ble_eq_true rfl)) (isMS_0 hW_48) rfl (cwV 1 C.2.2.2.2.1 gX7_readOrder_X7_take rfl rfl rfl kdV_X7_take ⟨Nat.le_of_ble_eq_true rfl, Nat.le_of_ble_eq_true rfl⟩) rfl rfl (Nat.le_of_ble_eq_true rfl) ⟨Nat.le_of_ble_eq_true rfl, Nat.le_of_ble_eq_true rfl⟩ dX7_readOrder_261 (fun v_51 f_51 hp_51 => ?_)
                    rcases hp_51 with ⟨rfl, hW_51, hG_51⟩
                    · skip
                      have hF_51 := gFr_tr hF_48 hG_51
                      refine gx_nil ?_
                      refine gx_aload_n (q := 0) C dX7_readOrder_264 rfl ?_
                      refine gx_aload_n (q := 0) C dX7_readOrder_265 rfl ?_
                      refine gx_get C (i := 8) (isMS_in hW_51 0 (Nat.le_of_ble_eq_true rfl)) (isMS_0 hW_51) rfl in_X7_readOrder_7 (by decide) fl_X7_readOrder_186 rfl dX7_readOrder_266 ?_
                      refine gx_top (1) rfl ?_
                      refine gx_if_eq (tgt := 276) C dX7_readOrder_269 (by decide) (fun c_269 => ?_) (fun c_269 => ?_)
                      exact absurd c_269 (by decide)
                      refine gx_iconst (v := 0) C dX7_readOrder_272 (by decide) ?_
                      refine gx_goto (tgt := 280) C dX7_readOrder_273 (by decide) ?_
                      refine gx_put C hD (i := 11) (ty := .int) tyX7_ok nmX7 (isMS_in hW_51 0 (Nat.le_of_ble_eq_true rfl)) (isMS_0 hW_51) rfl in_X7_readOrder_7 (by decide) fl_X7_readOrder_203 rfl (by decide +kernel) rfl rfl (Nat.le_of_ble_eq_true rfl) rfl dX7_readOrder_280 ?_
                      refine gx_Ss6 hW_51 hF_51 (fun f_52 hW_52 hF_52 => ?_)
                      have hW_52 := isMS_same hW_52 (mC_6 y (p0 + 1) 1 (sg (y.1 4) n p0) (sg (y.1 4) n (p0 + 1) - 48) 0 0 _)
                      exact gx_vretM C hr dX7_readOrder_283 (Or.inr (⟨(sg (y.1 4) n p0), (sg (y.1 4) n (p0 + 1) - 48), 0, 0, (by simp [ordr, c_25, c_34, c_43, c_52, c_61, c_70, hq_40_0]), rfl, (isMS_same hW_52 (by simp [ordr, c_25, c_34, c_43, c_52, c_61, c_70, hq_40_0])), hF_52⟩))
                  exact absurd c_243 (by decide)
                  exact absurd c_155 (by decide)
                exact absurd c_132 (by decide)
                exact absurd c_112 (by decide)
              · skip
                have hF_39 := gFr_tr hF_3 hG_39
                refine gx_nil ?_
                exact absurd hc_39_0 (by decide)
            · skip
              refine gx_aload_n (q := 0) C dX7_readOrder_73 rfl ?_
              refine gx_get C (i := 9) (isMS_in hW_3 0 (Nat.le_of_ble_eq_true rfl)) (isMS_0 hW_3) rfl in_X7_readOrder_7 (by decide) fl_X7_readOrder_200 rfl dX7_readOrder_74 ?_
              refine gx_top ((sg (y.1 4) n p0)) rfl ?_
              refine gx_bipush (v := 110) C dX7_readOrder_77 (by decide) ?_
              refine gx_icmp_eq (tgt := 91) C dX7_readOrder_79 (by decide) (fun c_79 => ?_) (fun c_79 => ?_)
              · skip
                have hz0 := sg_ne c_79 (by decide)
                refine gx_iconst (v := 1) C dX7_readOrder_91 (by decide) ?_
                refine gx_goto (tgt := 96) C dX7_readOrder_92 (by decide) ?_
                refine gx_callM C hD (k_X7_take0 l hL hW_3 hn hn2 (by omega) _ (bq := true) rfl) (isMS_in hW_3 0 (Nat.le_of_ble_eq_true rfl)) (isMS_0 hW_3) rfl (cwV 1 C.2.2.2.2.1 gX7_readOrder_X7_take rfl rfl rfl kdV_X7_take ⟨Nat.le_of_ble_eq_true rfl, Nat.le_of_ble_eq_true rfl⟩) rfl rfl (Nat.le_of_ble_eq_true rfl) ⟨Nat.le_of_ble_eq_true rfl, Nat.le_of_ble_eq_true rfl⟩ dX7_readOrder_96 (fun v_53 f_53 hp_53 => ?_)
                rcases hp_53 with ⟨hc_53_0, rfl, hW_53, hG_53⟩ | ⟨hc_53_0, rfl, hW_53, hG_53⟩
                · skip
                  have hF_53 := gFr_tr hF_3 hG_53
                  refine gx_nil ?_
                  have hq_53_0 : true = true := hc_53_0
                  refine gx_aload_n (q := 0) C dX7_readOrder_99 rfl ?_
                  refine gx_get C (i := 8) (isMS_in hW_53 0 (Nat.le_of_ble_eq_true rfl)) (isMS_0 hW_53) rfl in_X7_readOrder_7 (by decide) fl_X7_readOrder_186 rfl dX7_readOrder_100 ?_
                  refine gx_top (0) rfl ?_
                  refine gx_if_ne (tgt := 115) C dX7_readOrder_103 (by decide) (fun c_103 => ?_) (fun c_103 => ?_)
                  exact absurd (by decide) c_103
                  refine gx_aload_n (q := 0) C dX7_readOrder_106 rfl ?_
                  refine gx_get C (i := 9) (isMS_in hW_53 0 (Nat.le_of_ble_eq_true rfl)) (isMS_0 hW_53) rfl in_X7_readOrder_7 (by decide) fl_X7_readOrder_200 rfl dX7_readOrder_107 ?_
                  refine gx_top ((sg (y.1 4) n p0)) rfl ?_
                  refine gx_top (110) c_79 ?_
                  refine gx_bipush (v := 112) C dX7_readOrder_110 (by decide) ?_
                  refine gx_icmp_ne (tgt := 116) C dX7_readOrder_112 (by decide) (fun c_112 => ?_) (fun c_112 => ?_)
                  refine gx_aload_n (q := 0) C dX7_readOrder_116 rfl ?_
                  refine gx_aload_n (q := 0) C dX7_readOrder_117 rfl ?_
                  refine gx_get C (i := 9) (isMS_in hW_53 0 (Nat.le_of_ble_eq_true rfl)) (isMS_0 hW_53) rfl in_X7_readOrder_7 (by decide) fl_X7_readOrder_200 rfl dX7_readOrder_118 ?_
                  refine gx_top ((sg (y.1 4) n p0)) rfl ?_
                  refine gx_top (110) c_79 ?_
                  refine gx_bipush (v := 98) C dX7_readOrder_121 (by decide) ?_
                  refine gx_icmp_eq (tgt := 135) C dX7_readOrder_123 (by decide) (fun c_123 => ?_) (fun c_123 => ?_)
                  exact absurd c_123 (by decide)
                  refine gx_aload_n (q := 0) C dX7_readOrder_126 rfl ?_
                  refine gx_get C (i := 9) (isMS_in hW_53 0 (Nat.le_of_ble_eq_true rfl)) (isMS_0 hW_53) rfl in_X7_readOrder_7 (by decide) fl_X7_readOrder_200 rfl dX7_readOrder_127 ?_
                  refine gx_top ((sg (y.1 4) n p0)) rfl ?_
                  refine gx_top (110) c_79 ?_
                  refine gx_bipush (v := 116) C dX7_readOrder_130 (by decide) ?_
                  refine gx_icmp_ne (tgt := 142) C dX7_readOrder_132 (by decide) (fun c_132 => ?_) (fun c_132 => ?_)
                  refine gx_aload_n (q := 0) C dX7_readOrder_142 rfl ?_
                  refine gx_callM C hD (k_X7_readNumber l hL hW_53 hn hn2 (by omega)) (isMS_in hW_53 0 (Nat.le_of_ble_eq_true rfl)) (isMS_0 hW_53) rfl (cwV 0 C.2.2.2.2.1 gX7_readOrder_X7_readNumber rfl rfl rfl kdV_X7_readNumber ⟨Nat.le_of_ble_eq_true rfl, Nat.le_of_ble_eq_true rfl⟩) rfl rfl (Nat.le_of_ble_eq_true rfl) ⟨Nat.le_of_ble_eq_true rfl, Nat.le_of_ble_eq_true rfl⟩ dX7_readOrder_143 (fun v_54 f_54 hp_54 => ?_)
                  rcases hp_54 with ⟨hc_54_0, rfl, hW_54, hG_54⟩ | ⟨hc_54_0, rfl, hW_54, hG_54⟩
                  · skip
                    have hF_54 := gFr_tr hF_53 hG_54
                    refine gx_cons ?_
                    have hz_54 := numE_b _ _ _ hc_54_0
                    have hy_54 := numE_3 (y.1 4) n (p0 + 1)
                    have hq_54_0 : isD (sg (y.1 4) n (p0 + 1)) = true := hc_54_0
                    refine gx_put C hD (i := 10) (ty := .int) tyX7_ok nmX7 (isMS_in hW_54 0 (Nat.le_of_ble_eq_true rfl)) (isMS_0 hW_54) rfl in_X7_readOrder_7 (by decide) fl_X7_readOrder_212 rfl (by decide +kernel) rfl rfl (Nat.le_of_ble_eq_true rfl) rfl dX7_readOrder_146 ?_
                    refine gx_Ss5 hW_54 hF_54 (fun f_55 hW_55 hF_55 => ?_)
                    have hW_55 := isMS_same hW_55 (mC_5 y (numE (y.1 4) n (p0 + 1)) 0 (sg (y.1 4) n p0) a 0 0 _)
                    refine gx_aload_n (q := 0) C dX7_readOrder_149 rfl ?_
                    refine gx_get C (i := 9) (isMS_in hW_55 0 (Nat.le_of_ble_eq_true rfl)) (isMS_0 hW_55) rfl in_X7_readOrder_7 (by decide) fl_X7_readOrder_200 rfl dX7_readOrder_150 ?_
                    refine gx_top ((sg (y.1 4) n p0)) rfl ?_
                    refine gx_top (110) c_79 ?_
                    refine gx_bipush (v := 98) C dX7_readOrder_153 (by decide) ?_
                    refine gx_icmp_ne (tgt := 214) C dX7_readOrder_155 (by decide) (fun c_155 => ?_) (fun c_155 => ?_)
                    refine gx_aload_n (q := 0) C dX7_readOrder_214 rfl ?_
                    refine gx_get C (i := 9) (isMS_in hW_55 0 (Nat.le_of_ble_eq_true rfl)) (isMS_0 hW_55) rfl in_X7_readOrder_7 (by decide) fl_X7_readOrder_200 rfl dX7_readOrder_215 ?_
                    refine gx_top ((sg (y.1 4) n p0)) rfl ?_
                    refine gx_top (110) c_79 ?_
                    refine gx_bipush (v := 116) C dX7_readOrder_218 (by decide) ?_
                    refine gx_icmp_eq (tgt := 232) C dX7_readOrder_220 (by decide) (fun c_220 => ?_) (fun c_220 => ?_)
                    exact absurd c_220 (by decide)
                    refine gx_aload_n (q := 0) C dX7_readOrder_223 rfl ?_
                    refine gx_get C (i := 9) (isMS_in hW_55 0 (Nat.le_of_ble_eq_true rfl)) (isMS_0 hW_55) rfl in_X7_readOrder_7 (by decide) fl_X7_readOrder_200 rfl dX7_readOrder_224 ?_
                    refine gx_top ((sg (y.1 4) n p0)) rfl ?_
                    refine gx_top (110) c_79 ?_
                    refine gx_bipush (v := 103) C dX7_readOrder_227 (by decide) ?_
                    refine gx_icmp_ne (tgt := 283) C dX7_readOrder_229 (by decide) (fun c_229 => ?_) (fun c_229 => ?_)
                    exact gx_vretM C hr dX7_readOrder_283 (Or.inl ⟨(numV (y.1 4) n (p0 + 1)), (by simp [ordr, c_25, c_34, c_43, c_52, c_61, c_70, c_79, hq_54_0]), (by simp [ordr, c_25, c_34, c_43, c_52, c_61, c_70, c_79, hq_54_0]), rfl, (isMS_same hW_55 (by simp [ordr, c_25, c_34, c_43, c_52, c_61, c_70, c_79, hq_54_0])), hF_55⟩)
                    exact absurd c_229 (by decide)
                    exact absurd c_155 (by decide)
                  · skip
                    have hF_54 := gFr_tr hF_53 hG_54
                    refine gx_cons ?_
                    have hq_54_0 : isD (sg (y.1 4) n (p0 + 1)) = false := hc_54_0
                    refine gx_put C hD (i := 10) (ty := .int) tyX7_ok nmX7 (isMS_in hW_54 0 (Nat.le_of_ble_eq_true rfl)) (isMS_0 hW_54) rfl in_X7_readOrder_7 (by decide) fl_X7_readOrder_212 rfl (by decide +kernel) rfl rfl (Nat.le_of_ble_eq_true rfl) rfl dX7_readOrder_146 ?_
                    refine gx_Ss5 hW_54 hF_54 (fun f_56 hW_56 hF_56 => ?_)
                    have hW_56 := isMS_same hW_56 (mC_5 y (p0 + 1) 1 (sg (y.1 4) n p0) a 0 0 _)
                    refine gx_aload_n (q := 0) C dX7_readOrder_149 rfl ?_
                    refine gx_get C (i := 9) (isMS_in hW_56 0 (Nat.le_of_ble_eq_true rfl)) (isMS_0 hW_56) rfl in_X7_readOrder_7 (by decide) fl_X7_readOrder_200 rfl dX7_readOrder_150 ?_
                    refine gx_top ((sg (y.1 4) n p0)) rfl ?_
                    refine gx_top (110) c_79 ?_
                    refine gx_bipush (v := 98) C dX7_readOrder_153 (by decide) ?_
                    refine gx_icmp_ne (tgt := 214) C dX7_readOrder_155 (by decide) (fun c_155 => ?_) (fun c_155 => ?_)
                    refine gx_aload_n (q := 0) C dX7_readOrder_214 rfl ?_
                    refine gx_get C (i := 9) (isMS_in hW_56 0 (Nat.le_of_ble_eq_true rfl)) (isMS_0 hW_56) rfl in_X7_readOrder_7 (by decide) fl_X7_readOrder_200 rfl dX7_readOrder_215 ?_
                    refine gx_top ((sg (y.1 4) n p0)) rfl ?_
                    refine gx_top (110) c_79 ?_
                    refine gx_bipush (v := 116) C dX7_readOrder_218 (by decide) ?_
                    refine gx_icmp_eq (tgt := 232) C dX7_readOrder_220 (by decide) (fun c_220 => ?_) (fun c_220 => ?_)
                    exact absurd c_220 (by decide)
                    refine gx_aload_n (q := 0) C dX7_readOrder_223 rfl ?_
                    refine gx_get C (i := 9) (isMS_in hW_56 0 (Nat.le_of_ble_eq_true rfl)) (isMS_0 hW_56) rfl in_X7_readOrder_7 (by decide) fl_X7_readOrder_200 rfl dX7_readOrder_224 ?_
                    refine gx_top ((sg (y.1 4) n p0)) rfl ?_
                    refine gx_top (110) c_79 ?_
                    refine gx_bipush (v := 103) C dX7_readOrder_227 (by decide) ?_
                    refine gx_icmp_ne (tgt := 283) C dX7_readOrder_229 (by decide) (fun c_229 => ?_) (fun c_229 => ?_)
                    exact gx_vretM C hr dX7_readOrder_283 (Or.inr (⟨(sg (y.1 4) n p0), (sg (y.1 4) n (p0 + 1) - 48), 0, 0, (by simp [ordr, c_25, c_34, c_43, c_52, c_61, c_70, c_79, hq_54_0]), rfl, (isMS_same hW_56 (by simp [ordr, c_25, c_34, c_43, c_52, c_61, c_70, c_79, hq_54_0])), hF_56⟩))
                    exact absurd c_229 (by decide)
                    exact absurd c_155 (by decide)
                  exact absurd c_132 (by decide)
                  exact absurd c_112 (by decide)
                · skip
                  have hF_53 := gFr_tr hF_3 hG_53
                  refine gx_nil ?_
                  exact absurd hc_53_0 (by decide)
              · skip
                refine gx_aload_n (q := 0) C dX7_readOrder_82 rfl ?_
                refine gx_get C (i := 9) (isMS_in hW_3 0 (Nat.le_of_ble_eq_true rfl)) (isMS_0 hW_3) rfl in_X7_readOrder_7 (by decide) fl_X7_readOrder_200 rfl dX7_readOrder_83 ?_
                refine gx_top ((sg (y.1 4) n p0)) rfl ?_
                refine gx_bipush (v := 104) C dX7_readOrder_86 (by decide) ?_
                refine gx_icmp_ne (tgt := 95) C dX7_readOrder_88 (by decide) (fun c_88 => ?_) (fun c_88 => ?_)
                · skip
                  refine gx_iconst (v := 0) C dX7_readOrder_95 (by decide) ?_
                  refine gx_callM C hD (k_X7_take0 l hL hW_3 hn hn2 (by omega) _ (bq := false) rfl) (isMS_in hW_3 0 (Nat.le_of_ble_eq_true rfl)) (isMS_0 hW_3) rfl (cwV 1 C.2.2.2.2.1 gX7_readOrder_X7_take rfl rfl rfl kdV_X7_take ⟨Nat.le_of_ble_eq_true rfl, Nat.le_of_ble_eq_true rfl⟩) rfl rfl (Nat.le_of_ble_eq_true rfl) ⟨Nat.le_of_ble_eq_true rfl, Nat.le_of_ble_eq_true rfl⟩ dX7_readOrder_96 (fun v_57 f_57 hp_57 => ?_)
                  rcases hp_57 with ⟨hc_57_0, rfl, hW_57, hG_57⟩ | ⟨hc_57_0, rfl, hW_57, hG_57⟩
                  · skip
                    have hF_57 := gFr_tr hF_3 hG_57
                    refine gx_nil ?_
                    exact absurd hc_57_0 (by decide)
                  · skip
                    have hF_57 := gFr_tr hF_3 hG_57
                    refine gx_nil ?_
                    have hq_57_0 : false = false := hc_57_0
                    refine gx_aload_n (q := 0) C dX7_readOrder_99 rfl ?_
                    refine gx_get C (i := 8) (isMS_in hW_57 0 (Nat.le_of_ble_eq_true rfl)) (isMS_0 hW_57) rfl in_X7_readOrder_7 (by decide) fl_X7_readOrder_186 rfl dX7_readOrder_100 ?_
                    refine gx_top (1) rfl ?_
                    refine gx_if_ne (tgt := 115) C dX7_readOrder_103 (by decide) (fun c_103 => ?_) (fun c_103 => ?_)
                    exact gx_vretM C hr dX7_readOrder_115 (Or.inr (⟨(sg (y.1 4) n p0), a, 0, 0, (by simp [ordr, c_25, c_34, c_43, c_52, c_61, c_70, c_79, c_88]), rfl, (isMS_same hW_57 (by simp [ordr, c_25, c_34, c_43, c_52, c_61, c_70, c_79, c_88])), hF_57⟩))
                    exact absurd c_103 (by decide)
                · skip
                  have hz0 := sg_ne c_88 (by decide)
                  refine gx_iconst (v := 1) C dX7_readOrder_91 (by decide) ?_
                  refine gx_goto (tgt := 96) C dX7_readOrder_92 (by decide) ?_
                  refine gx_callM C hD (k_X7_take0 l hL hW_3 hn hn2 (by omega) _ (bq := true) rfl) (isMS_in hW_3 0 (Nat.le_of_ble_eq_true rfl)) (isMS_0 hW_3) rfl (cwV 1 C.2.2.2.2.1 gX7_readOrder_X7_take rfl rfl rfl kdV_X7_take ⟨Nat.le_of_ble_eq_true rfl, Nat.le_of_ble_eq_true rfl⟩) rfl rfl (Nat.le_of_ble_eq_true rfl) ⟨Nat.le_of_ble_eq_true rfl, Nat.le_of_ble_eq_true rfl⟩ dX7_readOrder_96 (fun v_58 f_58 hp_58 => ?_)
                  rcases hp_58 with ⟨hc_58_0, rfl, hW_58, hG_58⟩ | ⟨hc_58_0, rfl, hW_58, hG_58⟩
                  · skip
                    have hF_58 := gFr_tr hF_3 hG_58
                    refine gx_nil ?_
                    have hq_58_0 : true = true := hc_58_0
                    refine gx_aload_n (q := 0) C dX7_readOrder_99 rfl ?_
                    refine gx_get C (i := 8) (isMS_in hW_58 0 (Nat.le_of_ble_eq_true rfl)) (isMS_0 hW_58) rfl in_X7_readOrder_7 (by decide) fl_X7_readOrder_186 rfl dX7_readOrder_100 ?_
                    refine gx_top (0) rfl ?_
                    refine gx_if_ne (tgt := 115) C dX7_readOrder_103 (by decide) (fun c_103 => ?_) (fun c_103 => ?_)
                    exact absurd (by decide) c_103
                    refine gx_aload_n (q := 0) C dX7_readOrder_106 rfl ?_
                    refine gx_get C (i := 9) (isMS_in hW_58 0 (Nat.le_of_ble_eq_true rfl)) (isMS_0 hW_58) rfl in_X7_readOrder_7 (by decide) fl_X7_readOrder_200 rfl dX7_readOrder_107 ?_
                    refine gx_top ((sg (y.1 4) n p0)) rfl ?_
                    refine gx_top (104) c_88 ?_
                    refine gx_bipush (v := 112) C dX7_readOrder_110 (by decide) ?_
                    refine gx_icmp_ne (tgt := 116) C dX7_readOrder_112 (by decide) (fun c_112 => ?_) (fun c_112 => ?_)
                    refine gx_aload_n (q := 0) C dX7_readOrder_116 rfl ?_
                    refine gx_aload_n (q := 0) C dX7_readOrder_117 rfl ?_
                    refine gx_get C (i := 9) (isMS_in hW_58 0 (Nat.le_of_ble_eq_true rfl)) (isMS_0 hW_58) rfl in_X7_readOrder_7 (by decide) fl_X7_readOrder_200 rfl dX7_readOrder_118 ?_
                    refine gx_top ((sg (y.1 4) n p0)) rfl ?_
                    refine gx_top (104) c_88 ?_
                    refine gx_bipush (v := 98) C dX7_readOrder_121 (by decide) ?_
                    refine gx_icmp_eq (tgt := 135) C dX7_readOrder_123 (by decide) (fun c_123 => ?_) (fun c_123 => ?_)
                    exact absurd c_123 (by decide)
                    refine gx_aload_n (q := 0) C dX7_readOrder_126 rfl ?_
                    refine gx_get C (i := 9) (isMS_in hW_58 0 (Nat.le_of_ble_eq_true rfl)) (isMS_0 hW_58) rfl in_X7_readOrder_7 (by decide) fl_X7_readOrder_200 rfl dX7_readOrder_127 ?_
                    refine gx_top ((sg (y.1 4) n p0)) rfl ?_
                    refine gx_top (104) c_88 ?_
                    refine gx_bipush (v := 116) C dX7_readOrder_130 (by decide) ?_
                    refine gx_icmp_ne (tgt := 142) C dX7_readOrder_132 (by decide) (fun c_132 => ?_) (fun c_132 => ?_)
                    refine gx_aload_n (q := 0) C dX7_readOrder_142 rfl ?_
                    refine gx_callM C hD (k_X7_readNumber l hL hW_58 hn hn2 (by omega)) (isMS_in hW_58 0 (Nat.le_of_ble_eq_true rfl)) (isMS_0 hW_58) rfl (cwV 0 C.2.2.2.2.1 gX7_readOrder_X7_readNumber rfl rfl rfl kdV_X7_readNumber ⟨Nat.le_of_ble_eq_true rfl, Nat.le_of_ble_eq_true rfl⟩) rfl rfl (Nat.le_of_ble_eq_true rfl) ⟨Nat.le_of_ble_eq_true rfl, Nat.le_of_ble_eq_true rfl⟩ dX7_readOrder_143 (fun v_59 f_59 hp_59 => ?_)
                    rcases hp_59 with ⟨hc_59_0, rfl, hW_59, hG_59⟩ | ⟨hc_59_0, rfl, hW_59, hG_59⟩
                    · skip
                      have hF_59 := gFr_tr hF_58 hG_59
                      refine gx_cons ?_
                      have hz_59 := numE_b _ _ _ hc_59_0
                      have hy_59 := numE_3 (y.1 4) n (p0 + 1)
                      have hq_59_0 : isD (sg (y.1 4) n (p0 + 1)) = true := hc_59_0
                      refine gx_put C hD (i := 10) (ty := .int) tyX7_ok nmX7 (isMS_in hW_59 0 (Nat.le_of_ble_eq_true rfl)) (isMS_0 hW_59) rfl in_X7_readOrder_7 (by decide) fl_X7_readOrder_212 rfl (by decide +kernel) rfl rfl (Nat.le_of_ble_eq_true rfl) rfl dX7_readOrder_146 ?_
                      refine gx_Ss5 hW_59 hF_59 (fun f_60 hW_60 hF_60 => ?_)
                      have hW_60 := isMS_same hW_60 (mC_5 y (numE (y.1 4) n (p0 + 1)) 0 (sg (y.1 4) n p0) a 0 0 _)
                      refine gx_aload_n (q := 0) C dX7_readOrder_149 rfl ?_
                      refine gx_get C (i := 9) (isMS_in hW_60 0 (Nat.le_of_ble_eq_true rfl)) (isMS_0 hW_60) rfl in_X7_readOrder_7 (by decide) fl_X7_readOrder_200 rfl dX7_readOrder_150 ?_
                      refine gx_top ((sg (y.1 4) n p0)) rfl ?_
                      refine gx_top (104) c_88 ?_
                      refine gx_bipush (v := 98) C dX7_readOrder_153 (by decide) ?_
                      refine gx_icmp_ne (tgt := 214) C dX7_readOrder_155 (by decide) (fun c_155 => ?_) (fun c_155 => ?_)
                      refine gx_aload_n (q := 0) C dX7_readOrder_214 rfl ?_
                      refine gx_get C (i := 9) (isMS_in hW_60 0 (Nat.le_of_ble_eq_true rfl)) (isMS_0 hW_60) rfl in_X7_readOrder_7 (by decide) fl_X7_readOrder_200 rfl dX7_readOrder_215 ?_
                      refine gx_top ((sg (y.1 4) n p0)) rfl ?_
                      refine gx_top (104) c_88 ?_
                      refine gx_bipush (v := 116) C dX7_readOrder_218 (by decide) ?_
                      refine gx_icmp_eq (tgt := 232) C dX7_readOrder_220 (by decide) (fun c_220 => ?_) (fun c_220 => ?_)
                      exact absurd c_220 (by decide)
                      refine gx_aload_n (q := 0) C dX7_readOrder_223 rfl ?_
                      refine gx_get C (i := 9) (isMS_in hW_60 0 (Nat.le_of_ble_eq_true rfl)) (isMS_0 hW_60) rfl in_X7_readOrder_7 (by decide) fl_X7_readOrder_200 rfl dX7_readOrder_224 ?_
                      refine gx_top ((sg (y.1 4) n p0)) rfl ?_
                      refine gx_top (104) c_88 ?_
                      refine gx_bipush (v := 103) C dX7_readOrder_227 (by decide) ?_
                      refine gx_icmp_ne (tgt := 283) C dX7_readOrder_229 (by decide) (fun c_229 => ?_) (fun c_229 => ?_)
                      exact gx_vretM C hr dX7_readOrder_283 (Or.inl ⟨(numV (y.1 4) n (p0 + 1)), (by simp [ordr, c_25, c_34, c_43, c_52, c_61, c_70, c_79, c_88, hq_59_0]), (by simp [ordr, c_25, c_34, c_43, c_52, c_61, c_70, c_79, c_88, hq_59_0]), rfl, (isMS_same hW_60 (by simp [ordr, c_25, c_34, c_43, c_52, c_61, c_70, c_79, c_88, hq_59_0])), hF_60⟩)
                      exact absurd c_229 (by decide)
                      exact absurd c_155 (by decide)
                    · skip
                      have hF_59 := gFr_tr hF_58 hG_59
                      refine gx_cons ?_
                      have hq_59_0 : isD (sg (y.1 4) n (p0 + 1)) = false := hc_59_0
                      refine gx_put C hD (i := 10) (ty := .int) tyX7_ok nmX7 (isMS_in hW_59 0 (Nat.le_of_ble_eq_true rfl)) (isMS_0 hW_59) rfl in_X7_readOrder_7 (by decide) fl_X7_readOrder_212 rfl (by decide +kernel) rfl rfl (Nat.le_of_ble_eq_true rfl) rfl dX7_readOrder_146 ?_
                      refine gx_Ss5 hW_59 hF_59 (fun f_61 hW_61 hF_61 => ?_)
                      have hW_61 := isMS_same hW_61 (mC_5 y (p0 + 1) 1 (sg (y.1 4) n p0) a 0 0 _)
                      refine gx_aload_n (q := 0) C dX7_readOrder_149 rfl ?_
                      refine gx_get C (i := 9) (isMS_in hW_61 0 (Nat.le_of_ble_eq_true rfl)) (isMS_0 hW_61) rfl in_X7_readOrder_7 (by decide) fl_X7_readOrder_200 rfl dX7_readOrder_150 ?_
                      refine gx_top ((sg (y.1 4) n p0)) rfl ?_
                      refine gx_top (104) c_88 ?_
                      refine gx_bipush (v := 98) C dX7_readOrder_153 (by decide) ?_
                      refine gx_icmp_ne (tgt := 214) C dX7_readOrder_155 (by decide) (fun c_155 => ?_) (fun c_155 => ?_)
                      refine gx_aload_n (q := 0) C dX7_readOrder_214 rfl ?_
                      refine gx_get C (i := 9) (isMS_in hW_61 0 (Nat.le_of_ble_eq_true rfl)) (isMS_0 hW_61) rfl in_X7_readOrder_7 (by decide) fl_X7_readOrder_200 rfl dX7_readOrder_215 ?_
                      refine gx_top ((sg (y.1 4) n p0)) rfl ?_
                      refine gx_top (104) c_88 ?_
                      refine gx_bipush (v := 116) C dX7_readOrder_218 (by decide) ?_
                      refine gx_icmp_eq (tgt := 232) C dX7_readOrder_220 (by decide) (fun c_220 => ?_) (fun c_220 => ?_)
                      exact absurd c_220 (by decide)
                      refine gx_aload_n (q := 0) C dX7_readOrder_223 rfl ?_
                      refine gx_get C (i := 9) (isMS_in hW_61 0 (Nat.le_of_ble_eq_true rfl)) (isMS_0 hW_61) rfl in_X7_readOrder_7 (by decide) fl_X7_readOrder_200 rfl dX7_readOrder_224 ?_
                      refine gx_top ((sg (y.1 4) n p0)) rfl ?_
                      refine gx_top (104) c_88 ?_
                      refine gx_bipush (v := 103) C dX7_readOrder_227 (by decide) ?_
                      refine gx_icmp_ne (tgt := 283) C dX7_readOrder_229 (by decide) (fun c_229 => ?_) (fun c_229 => ?_)
                      exact gx_vretM C hr dX7_readOrder_283 (Or.inr (⟨(sg (y.1 4) n p0), (sg (y.1 4) n (p0 + 1) - 48), 0, 0, (by simp [ordr, c_25, c_34, c_43, c_52, c_61, c_70, c_79, c_88, hq_59_0]), rfl, (isMS_same hW_61 (by simp [ordr, c_25, c_34, c_43, c_52, c_61, c_70, c_79, c_88, hq_59_0])), hF_61⟩))
                      exact absurd c_229 (by decide)
                      exact absurd c_155 (by decide)
                    exact absurd c_132 (by decide)
                    exact absurd c_112 (by decide)
                  · skip
                    have hF_58 := gFr_tr hF_3 hG_58
                    refine gx_nil ?_
                    exact absurd hc_58_0 (by decide)
