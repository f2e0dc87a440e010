theorem kdN_X5_hasPupil : yX5_hasPupil.cls ≠ "java/lang/invoke/MethodHandle" ∧ yX5_hasPupil.cls ≠ "java/lang/invoke/VarHandle" ∧ (parseMethodDescriptor yX5_hasPupil.desc).map (fun d => d.parameters.length) = some 1 := by decide +kernel
theorem kdV_X5_hasPupil : yX5_hasPupil.cls = RX5 ∧ yX5_hasPupil.cls ≠ "java/lang/invoke/MethodHandle" ∧ yX5_hasPupil.cls ≠ "java/lang/invoke/VarHandle" ∧ (parseMethodDescriptor yX5_hasPupil.desc).map (fun d => d.parameters.length) = some 1 := ⟨rfl, kdN_X5_hasPupil⟩
def vX5_hasPupil (w : WS) (q : Int32) : Bool := (if q < 0 then false else (if (w.2 3) ≤ q then false else true))
theorem in_X5_hasPupil_5 : ∀ w ∈ u_ws RX5 TX5 8, w ∈ wsX5_hasPupil := by decide +kernel
theorem fl_X5_hasPupil_58 : Cond.fieldLink RX5 58 (TX5 5).1 (TX5 5).2.1 (TX5 5).2.2.1 ∈ wsX5_hasPupil := by decide +kernel
abbrev rmX5_hasPupil : Room := { frames := 0, cells := 0, slots := 0, locals := 0 }
set_option maxHeartbeats 4000000 in
set_option maxRecDepth 100000 in
theorem k_X5_hasPupil (l : Launch) {k : gK} {L : List Nat} {f : Nat → va_E} {a : Nat → Nat} {w : WS} (hW : isWS k L f a w) (q : Int32) : kR l k L f yX5_hasPupil wsX5_hasPupil rmX5_hasPupil [.ref (a 0), .int q] (.int (bI (vX5_hasPupil w q))) := by
  refine kR_of (cc := cX5_hasPupil) (maxL := 2) (ret := (some .boolean)) (by decide) rfl (Nat.le_of_ble_eq_true rfl) ?_
  intro p e s m args below meth c C hr
  refine gx_lv [(0, _), (1, _)] [0, 1] rfl ?_
  refine gx_iload_n (q := 1) C dX5_hasPupil_0 rfl ?_
  refine gx_if_lt (tgt := 16) C dX5_hasPupil_1 (by decide) (fun c_1 => ?_) (fun c_1 => ?_)
  · skip
    refine gx_iconst (v := 0) C dX5_hasPupil_16 (by decide) ?_
    exact gx_zretR C rfl hr (Or.inl rfl) dX5_hasPupil_17 (congrArg Value.int (congrArg bI (show vX5_hasPupil w q = false from (if_pos c_1).trans (rfl))).symm)
  · skip
    refine gx_iload_n (q := 1) C dX5_hasPupil_4 rfl ?_
    refine gx_aload_n (q := 0) C dX5_hasPupil_5 rfl ?_
    refine gx_get C (i := 5) (isWS_in hW 0 (Nat.le_of_ble_eq_true rfl)) (isWS_0 hW) rfl in_X5_hasPupil_5 (by decide) fl_X5_hasPupil_58 rfl dX5_hasPupil_6 ?_
    refine gx_icmp_ge (tgt := 16) C dX5_hasPupil_9 (by decide) (fun c_9 => ?_) (fun c_9 => ?_)
    · skip
      refine gx_iconst (v := 0) C dX5_hasPupil_16 (by decide) ?_
      exact gx_zretR C rfl hr (Or.inl rfl) dX5_hasPupil_17 (congrArg Value.int (congrArg bI (show vX5_hasPupil w q = false from (if_neg c_1).trans ((if_pos c_9).trans (rfl)))).symm)
    · skip
      refine gx_iconst (v := 1) C dX5_hasPupil_12 (by decide) ?_
      refine gx_goto (tgt := 17) C dX5_hasPupil_13 (by decide) ?_
      exact gx_zretR C rfl hr (Or.inr rfl) dX5_hasPupil_17 (congrArg Value.int (congrArg bI (show vX5_hasPupil w q = true from (if_neg c_1).trans ((if_neg c_9).trans (rfl)))).symm)
theorem kdN_X5_isInRange : yX5_isInRange.cls ≠ "java/lang/invoke/MethodHandle" ∧ yX5_isInRange.cls ≠ "java/lang/invoke/VarHandle" ∧ (parseMethodDescriptor yX5_isInRange.desc).map (fun d => d.parameters.length) = some 2 := by decide +kernel
def vX5_isInRange (st : Int32) (v : Int32) : Bool := (if st = 0 then (isW v 1 9) else (if st = 1 then (isW v 3 24) else (if st = 2 then (isW v 100 140) else (if st = 3 then (isW v 0 20) else false))))
theorem wd_X5_isInRange_ini_RX6 : Cond.initialized RX6 ∈ wsX5_isInRange := by decide +kernel
theorem wd_X5_isInRange_st_X6_isWithin : Cond.static yX6_isWithin ∈ wsX5_isInRange := by decide +kernel
abbrev rmX5_isInRange : Room := { frames := 1, cells := 0, slots := 0, locals := 22 }
set_option maxHeartbeats 4000000 in
set_option maxRecDepth 100000 in
theorem k_X5_isInRange (l : Launch) {k : gK} {L : List Nat} {f : Nat → va_E}  (st : Int32) (v : Int32) : kR l k L f yX5_isInRange wsX5_isInRange rmX5_isInRange [.int st, .int v] (.int (bI (vX5_isInRange st v))) := by
  refine kR_of (cc := cX5_isInRange) (maxL := 2) (ret := (some .boolean)) (by decide) rfl (Nat.le_of_ble_eq_true rfl) ?_
  intro p e s m args below meth c C hr
  refine gx_lv [(0, _), (1, _)] [0, 1] rfl ?_
  refine gx_iload_n (q := 0) C dX5_isInRange_0 rfl ?_
  refine gsw_split 0 3 st ?_ ?_
  · intro sw_1
    refine gx_tableOut (tgt := 66) C dX5_isInRange_1 sw_1 (by decide) ?_
    have n1_0 : ¬ st = 0 := gsw_ne sw_1 (by decide)
    have n1_1 : ¬ st = 1 := gsw_ne sw_1 (by decide)
    have n1_2 : ¬ st = 2 := gsw_ne sw_1 (by decide)
    have n1_3 : ¬ st = 3 := gsw_ne sw_1 (by decide)
    refine gx_iconst (v := 0) C dX5_isInRange_66 (by decide) ?_
    exact gx_zretR C rfl hr (Or.inl rfl) dX5_isInRange_67 (congrArg Value.int (congrArg bI (show vX5_isInRange st v = false from (if_neg n1_0).trans ((if_neg n1_1).trans ((if_neg n1_2).trans ((if_neg n1_3).trans (rfl)))))).symm)
  · intro j hj1 hj2 sw_1
    obtain rfl | rfl | rfl | rfl : j = 0 ∨ j = 1 ∨ j = 2 ∨ j = 3 := by omega
    · skip
      refine gx_tableIn (off := 31) (tgt := 32) C dX5_isInRange_1 (by rw [sw_1]; decide) (by rw [sw_1]; decide) (by rw [sw_1]; rfl) (by decide) ?_
      have e1_0 : st = 0 := gsw_eq sw_1 (by decide)
      refine gx_iload_n (q := 1) C dX5_isInRange_32 rfl ?_
      refine gx_iconst (v := 1) C dX5_isInRange_33 (by decide) ?_
      refine gx_bipush (v := 9) C dX5_isInRange_34 (by decide) ?_
      refine gx_callRN C (k_X6_isWithin l (k := k) (L := L) _ _ _) ⟨va_cnB 3 C.2.2.2.2.1 gX5_isInRange_X6_isWithin_n67 rfl rfl rfl (C.2.2.2.2.2.1.2.2 (RX5, 67, yX6_isWithin) (by decide +kernel)) (C.2.2.2.2.1 _ wd_X5_isInRange_ini_RX6) kdN_X6_isWithin ⟨Nat.le_of_ble_eq_true rfl, Nat.le_of_ble_eq_true rfl⟩, C.2.2.2.2.1 _ wd_X5_isInRange_st_X6_isWithin, trivial⟩ rfl rfl (Nat.le_of_ble_eq_true rfl) ⟨Nat.le_of_ble_eq_true rfl, Nat.le_of_ble_eq_true rfl⟩ dX5_isInRange_36 ?_
      exact gx_zretR C rfl hr (bI01 _) dX5_isInRange_39 (congrArg Value.int (congrArg bI (show vX5_isInRange st v = (isW v 1 9) from (if_pos e1_0).trans (rfl))).symm)
    · skip
      refine gx_tableIn (off := 39) (tgt := 40) C dX5_isInRange_1 (by rw [sw_1]; decide) (by rw [sw_1]; decide) (by rw [sw_1]; rfl) (by decide) ?_
      have e1_1 : st = 1 := gsw_eq sw_1 (by decide)
      have n1_0 : ¬ st = 0 := gsw_n2 e1_1 (by decide)
      refine gx_iload_n (q := 1) C dX5_isInRange_40 rfl ?_
      refine gx_iconst (v := 3) C dX5_isInRange_41 (by decide) ?_
      refine gx_bipush (v := 24) C dX5_isInRange_42 (by decide) ?_
      refine gx_callRN C (k_X6_isWithin l (k := k) (L := L) _ _ _) ⟨va_cnB 3 C.2.2.2.2.1 gX5_isInRange_X6_isWithin_n67 rfl rfl rfl (C.2.2.2.2.2.1.2.2 (RX5, 67, yX6_isWithin) (by decide +kernel)) (C.2.2.2.2.1 _ wd_X5_isInRange_ini_RX6) kdN_X6_isWithin ⟨Nat.le_of_ble_eq_true rfl, Nat.le_of_ble_eq_true rfl⟩, C.2.2.2.2.1 _ wd_X5_isInRange_st_X6_isWithin, trivial⟩ rfl rfl (Nat.le_of_ble_eq_true rfl) ⟨Nat.le_of_ble_eq_true rfl, Nat.le_of_ble_eq_true rfl⟩ dX5_isInRange_44 ?_
      exact gx_zretR C rfl hr (bI01 _) dX5_isInRange_47 (congrArg Value.int (congrArg bI (show vX5_isInRange st v = (isW v 3 24) from (if_neg n1_0).trans ((if_pos e1_1).trans (rfl)))).symm)
    · skip
      refine gx_tableIn (off := 47) (tgt := 48) C dX5_isInRange_1 (by rw [sw_1]; decide) (by rw [sw_1]; decide) (by rw [sw_1]; rfl) (by decide) ?_
      have e1_2 : st = 2 := gsw_eq sw_1 (by decide)
      have n1_0 : ¬ st = 0 := gsw_n2 e1_2 (by decide)
      have n1_1 : ¬ st = 1 := gsw_n2 e1_2 (by decide)
      refine gx_iload_n (q := 1) C dX5_isInRange_48 rfl ?_
      refine gx_bipush (v := 100) C dX5_isInRange_49 (by decide) ?_
      refine gx_sipush (v := 140) C dX5_isInRange_51 (by decide) ?_
      refine gx_callRN C (k_X6_isWithin l (k := k) (L := L) _ _ _) ⟨va_cnB 3 C.2.2.2.2.1 gX5_isInRange_X6_isWithin_n67 rfl rfl rfl (C.2.2.2.2.2.1.2.2 (RX5, 67, yX6_isWithin) (by decide +kernel)) (C.2.2.2.2.1 _ wd_X5_isInRange_ini_RX6) kdN_X6_isWithin ⟨Nat.le_of_ble_eq_true rfl, Nat.le_of_ble_eq_true rfl⟩, C.2.2.2.2.1 _ wd_X5_isInRange_st_X6_isWithin, trivial⟩ rfl rfl (Nat.le_of_ble_eq_true rfl) ⟨Nat.le_of_ble_eq_true rfl, Nat.le_of_ble_eq_true rfl⟩ dX5_isInRange_54 ?_
      exact gx_zretR C rfl hr (bI01 _) dX5_isInRange_57 (congrArg Value.int (congrArg bI (show vX5_isInRange st v = (isW v 100 140) from (if_neg n1_0).trans ((if_neg n1_1).trans ((if_pos e1_2).trans (rfl))))).symm)
    · skip
      refine gx_tableIn (off := 57) (tgt := 58) C dX5_isInRange_1 (by rw [sw_1]; decide) (by rw [sw_1]; decide) (by rw [sw_1]; rfl) (by decide) ?_
      have e1_3 : st = 3 := gsw_eq sw_1 (by decide)
      have n1_0 : ¬ st = 0 := gsw_n2 e1_3 (by decide)
      have n1_1 : ¬ st = 1 := gsw_n2 e1_3 (by decide)
      have n1_2 : ¬ st = 2 := gsw_n2 e1_3 (by decide)
      refine gx_iload_n (q := 1) C dX5_isInRange_58 rfl ?_
      refine gx_iconst (v := 0) C dX5_isInRange_59 (by decide) ?_
      refine gx_bipush (v := 20) C dX5_isInRange_60 (by decide) ?_
      refine gx_callRN C (k_X6_isWithin l (k := k) (L := L) _ _ _) ⟨va_cnB 3 C.2.2.2.2.1 gX5_isInRange_X6_isWithin_n67 rfl rfl rfl (C.2.2.2.2.2.1.2.2 (RX5, 67, yX6_isWithin) (by decide +kernel)) (C.2.2.2.2.1 _ wd_X5_isInRange_ini_RX6) kdN_X6_isWithin ⟨Nat.le_of_ble_eq_true rfl, Nat.le_of_ble_eq_true rfl⟩, C.2.2.2.2.1 _ wd_X5_isInRange_st_X6_isWithin, trivial⟩ rfl rfl (Nat.le_of_ble_eq_true rfl) ⟨Nat.le_of_ble_eq_true rfl, Nat.le_of_ble_eq_true rfl⟩ dX5_isInRange_62 ?_
      exact gx_zretR C rfl hr (bI01 _) dX5_isInRange_65 (congrArg Value.int (congrArg bI (show vX5_isInRange st v = (isW v 0 20) from (if_neg n1_0).trans ((if_neg n1_1).trans ((if_neg n1_2).trans ((if_pos e1_3).trans (rfl)))))).symm)
theorem kdN_X5_changeSetting : yX5_changeSetting.cls ≠ "java/lang/invoke/MethodHandle" ∧ yX5_changeSetting.cls ≠ "java/lang/invoke/VarHandle" ∧ (parseMethodDescriptor yX5_changeSetting.desc).map (fun d => d.parameters.length) = some 2 := by decide +kernel
theorem kdV_X5_changeSetting : yX5_changeSetting.cls = RX5 ∧ yX5_changeSetting.cls ≠ "java/lang/invoke/MethodHandle" ∧ yX5_changeSetting.cls ≠ "java/lang/invoke/VarHandle" ∧ (parseMethodDescriptor yX5_changeSetting.desc).map (fun d => d.parameters.length) = some 2 := ⟨rfl, kdN_X5_changeSetting⟩
def vX5_changeSetting (w : WS) (st : Int32) (v : Int32) : Int32 := (if (vX5_isInRange st v) = true then (rAt 4 (w.1 0) st) else (-2))
def wX5_changeSetting (w : WS) (st : Int32) (v : Int32) : WS := (if (vX5_isInRange st v) = true then (wRow w 0 (rPut 4 (w.1 0) st v)) else w)
theorem in_X5_changeSetting_5 : ∀ w ∈ u_ws RX5 TX5 8, w ∈ wsX5_changeSetting := by decide +kernel
theorem fl_X5_changeSetting_14 : Cond.fieldLink RX5 14 (TX5 0).1 (TX5 0).2.1 (TX5 0).2.2.1 ∈ wsX5_changeSetting := by decide +kernel
abbrev rmX5_changeSetting : Room := { frames := 2, cells := 0, slots := 0, locals := 43 }
set_option maxHeartbeats 4000000 in
set_option maxRecDepth 100000 in
theorem k_X5_changeSetting (l : Launch) {k : gK} {L : List Nat} {f : Nat → va_E} (hL : L.Nodup) {a : Nat → Nat} {w : WS} (hW : isWS k L f a w) (st : Int32) (v : Int32) : kM l k L f yX5_changeSetting wsX5_changeSetting rmX5_changeSetting [.ref (a 0), .int st, .int v] (wP k L a f (some (.int (vX5_changeSetting w st v))) (wX5_changeSetting w st v)) := by
  refine kM_of (cc := cX5_changeSetting) (maxL := 4) (ret := (some .int)) (by decide) rfl (Nat.le_of_ble_eq_true rfl) ?_
  intro p e s m args below meth c C hr
  have hD : gD (fun q => q ∈ L) L := ⟨hL, fun _ h => h⟩
  refine gx_lv [(0, _), (1, _), (2, _)] [0, 1, 2] rfl ?_
  refine gx_iload_n (q := 1) C dX5_changeSetting_0 rfl ?_
  refine gx_iload_n (q := 2) C dX5_changeSetting_1 rfl ?_
  refine gx_callRS C (k_X5_isInRange l (k := k) (L := L) _ _) (va_cwS 2 C.2.2.2.2.1 gX5_changeSetting_X5_isInRange rfl rfl rfl kdN_X5_isInRange ⟨Nat.le_of_ble_eq_true rfl, Nat.le_of_ble_eq_true rfl⟩) rfl rfl (Nat.le_of_ble_eq_true rfl) ⟨Nat.le_of_ble_eq_true rfl, Nat.le_of_ble_eq_true rfl⟩ dX5_changeSetting_2 ?_
  refine gx_if_ne (tgt := 11) C dX5_changeSetting_5 (by decide) (fun c_5 => ?_) (fun c_5 => ?_)
  · skip
    have h_5 := bI1.mp c_5
    refine gx_aload_n (q := 0) C dX5_changeSetting_11 rfl ?_
    refine gx_get C (i := 0) (isWS_in hW 0 (Nat.le_of_ble_eq_true rfl)) (isWS_0 hW) rfl in_X5_changeSetting_5 (by decide) fl_X5_changeSetting_14 rfl dX5_changeSetting_12 ?_
    refine gx_iload_n (q := 1) C dX5_changeSetting_15 rfl ?_
    refine gx_callR C (kw_X4_at l hW 0 (Nat.le_of_ble_eq_true rfl) 4 rfl _) (isWS_in hW 3 (Nat.le_of_ble_eq_true rfl)) (isWS_row hW 0 (Nat.le_of_ble_eq_true rfl)) rfl (cwV 1 C.2.2.2.2.1 gX5_changeSetting_X4_at rfl rfl rfl kdV_X4_at ⟨Nat.le_of_ble_eq_true rfl, Nat.le_of_ble_eq_true rfl⟩) rfl rfl (Nat.le_of_ble_eq_true rfl) ⟨Nat.le_of_ble_eq_true rfl, Nat.le_of_ble_eq_true rfl⟩ dX5_changeSetting_16 ?_
    refine gx_istore_n C (i := 3) [(3, _), (0, _), (1, _), (2, _)] dX5_changeSetting_19 rfl (by decide) rfl ?_
    refine gx_aload_n (q := 1) C dX5_changeSetting_20 rfl ?_
    refine gx_get C (i := 0) (isWS_in hW 0 (Nat.le_of_ble_eq_true rfl)) (isWS_0 hW) rfl in_X5_changeSetting_5 (by decide) fl_X5_changeSetting_14 rfl dX5_changeSetting_21 ?_
    refine gx_iload_n (q := 2) C dX5_changeSetting_24 rfl ?_
    refine gx_iload_n (q := 3) C dX5_changeSetting_25 rfl ?_
    refine gx_callWv C hD (gFr_rf (f := f)) (kw_X4_write l hL hW 0 (Nat.le_of_ble_eq_true rfl) 4 rfl _ _) (isWS_in hW 3 (Nat.le_of_ble_eq_true rfl)) (isWS_row hW 0 (Nat.le_of_ble_eq_true rfl)) rfl (cwV 2 C.2.2.2.2.1 gX5_changeSetting_X4_write rfl rfl rfl kdV_X4_write ⟨Nat.le_of_ble_eq_true rfl, Nat.le_of_ble_eq_true rfl⟩) rfl rfl (Nat.le_of_ble_eq_true rfl) ⟨Nat.le_of_ble_eq_true rfl, Nat.le_of_ble_eq_true rfl⟩ dX5_changeSetting_26 (fun f_1 hW_1 hF_1 => ?_)
    refine gx_iload_n (q := 0) C dX5_changeSetting_29 rfl ?_
    exact gx_iretW C hr hW_1 hF_1 dX5_changeSetting_30 ((if_pos h_5).trans (rfl)).symm ((if_pos h_5).trans (rfl)).symm
  · skip
    have h_5 := bI0.mp c_5
    refine gx_bipush (v := (-2)) C dX5_changeSetting_8 (by decide) ?_
    exact gx_iretW C hr hW (gFr_rf (f := f)) dX5_changeSetting_10 ((if_neg (bF h_5)).trans (rfl)).symm ((if_neg (bF h_5)).trans (rfl)).symm
theorem kdN_X5_admitPupil : yX5_admitPupil.cls ≠ "java/lang/invoke/MethodHandle" ∧ yX5_admitPupil.cls ≠ "java/lang/invoke/VarHandle" ∧ (parseMethodDescriptor yX5_admitPupil.desc).map (fun d => d.parameters.length) = some 0 := by decide +kernel
theorem kdV_X5_admitPupil : yX5_admitPupil.cls = RX5 ∧ yX5_admitPupil.cls ≠ "java/lang/invoke/MethodHandle" ∧ yX5_admitPupil.cls ≠ "java/lang/invoke/VarHandle" ∧ (parseMethodDescriptor yX5_admitPupil.desc).map (fun d => d.parameters.length) = some 0 := ⟨rfl, kdN_X5_admitPupil⟩
def vX5_admitPupil (w : WS)  : Int32 := (if (w.2 3) < 10 then (w.2 3) else (-4))
def wX5_admitPupil (w : WS)  : WS := (if (w.2 3) < 10 then (wSc w 3 ((w.2 3) + 1)) else w)
theorem in_X5_admitPupil_5 : ∀ w ∈ u_ws RX5 TX5 8, w ∈ wsX5_admitPupil := by decide +kernel
theorem fl_X5_admitPupil_58 : Cond.fieldLink RX5 58 (TX5 5).1 (TX5 5).2.1 (TX5 5).2.2.1 ∈ wsX5_admitPupil := by decide +kernel
abbrev rmX5_admitPupil : Room := { frames := 0, cells := 0, slots := 0, locals := 0 }
set_option maxHeartbeats 4000000 in
set_option maxRecDepth 100000 in
theorem k_X5_admitPupil (l : Launch) {k : gK} {L : List Nat} {f : Nat → va_E} (hL : L.Nodup) {a : Nat → Nat} {w : WS} (hW : isWS k L f a w)  : kM l k L f yX5_admitPupil wsX5_admitPupil rmX5_admitPupil [.ref (a 0)] (wP k L a f (some (.int (vX5_admitPupil w ))) (wX5_admitPupil w )) := by
  refine kM_of (cc := cX5_admitPupil) (maxL := 1) (ret := (some .int)) (by decide) rfl (Nat.le_of_ble_eq_true rfl) ?_
  intro p e s m args below meth c C hr
  have hD : gD (fun q => q ∈ L) L := ⟨hL, fun _ h => h⟩
  refine gx_lv [(0, _)] [0] rfl ?_
  refine gx_aload_n (q := 0) C dX5_admitPupil_0 rfl ?_
  refine gx_get C (i := 5) (isWS_in hW 0 (Nat.le_of_ble_eq_true rfl)) (isWS_0 hW) rfl in_X5_admitPupil_5 (by decide) fl_X5_admitPupil_58 rfl dX5_admitPupil_1 ?_
  refine gx_bipush (v := 10) C dX5_admitPupil_4 (by decide) ?_
  refine gx_icmp_lt (tgt := 12) C dX5_admitPupil_6 (by decide) (fun c_6 => ?_) (fun c_6 => ?_)
  · skip
    refine gx_aload_n (q := 0) C dX5_admitPupil_12 rfl ?_
    refine gx_dup C rfl dX5_admitPupil_13 ?_
    refine gx_get C (i := 5) (isWS_in hW 0 (Nat.le_of_ble_eq_true rfl)) (isWS_0 hW) rfl in_X5_admitPupil_5 (by decide) fl_X5_admitPupil_58 rfl dX5_admitPupil_14 ?_
    refine gx_dup_x1 C rfl rfl dX5_admitPupil_17 ?_
    refine gx_iconst (v := 1) C dX5_admitPupil_18 (by decide) ?_
    refine gx_iadd C dX5_admitPupil_19 ?_
    refine gx_put C hD (i := 5) (ty := .int) tyX5_ok nmX5 (isWS_in hW 0 (Nat.le_of_ble_eq_true rfl)) (isWS_0 hW) rfl in_X5_admitPupil_5 (by decide) fl_X5_admitPupil_58 rfl (by decide +kernel) rfl rfl (Nat.le_of_ble_eq_true rfl) rfl dX5_admitPupil_20 ?_
    refine gx_w3 hW (gFr_rf (f := f)) (fun f_1 hW_1 hF_1 => ?_)
    exact gx_iretW C hr hW_1 hF_1 dX5_admitPupil_23 ((if_pos c_6).trans (rfl)).symm ((if_pos c_6).trans (rfl)).symm
  · skip
    refine gx_bipush (v := (-4)) C dX5_admitPupil_9 (by decide) ?_
    exact gx_iretW C hr hW (gFr_rf (f := f)) dX5_admitPupil_11 ((if_neg c_6).trans (rfl)).symm ((if_neg c_6).trans (rfl)).symm
theorem kdN_X5_bookWheel : yX5_bookWheel.cls ≠ "java/lang/invoke/MethodHandle" ∧ yX5_bookWheel.cls ≠ "java/lang/invoke/VarHandle" ∧ (parseMethodDescriptor yX5_bookWheel.desc).map (fun d => d.parameters.length) = some 3 := by decide +kernel
theorem kdV_X5_bookWheel : yX5_bookWheel.cls = RX5 ∧ yX5_bookWheel.cls ≠ "java/lang/invoke/MethodHandle" ∧ yX5_bookWheel.cls ≠ "java/lang/invoke/VarHandle" ∧ (parseMethodDescriptor yX5_bookWheel.desc).map (fun d => d.parameters.length) = some 3 := ⟨rfl, kdN_X5_bookWheel⟩
def vX5_bookWheel (w : WS) (q : Int32) (wh : Int32) (ah : Int32) : Int32 := (if (vX5_hasPupil w q) = true then (if (isW wh 0 4) = true then (if (isW ah 0 20) = true then (if (cBooker w wh ah) = (-6) then (if (cWheel w q ah) = (-6) then (((cEnter w wh ah q).2 0) + ah) else (-5)) else (-5)) else (-2)) else (-1)) else (-1))
def wX5_bookWheel (w : WS) (q : Int32) (wh : Int32) (ah : Int32) : WS := (if (vX5_hasPupil w q) = true then (if (isW wh 0 4) = true then (if (isW ah 0 20) = true then (if (cBooker w wh ah) = (-6) then (if (cWheel w q ah) = (-6) then (cEnter w wh ah q) else w) else w) else w) else w) else w)
theorem wd_X5_bookWheel_ini_RX6 : Cond.initialized RX6 ∈ wsX5_bookWheel := by decide +kernel
theorem wd_X5_bookWheel_st_X6_isWheel : Cond.static yX6_isWheel ∈ wsX5_bookWheel := by decide +kernel
theorem wd_X5_bookWheel_st_X6_isAhead : Cond.static yX6_isAhead ∈ wsX5_bookWheel := by decide +kernel
theorem in_X5_bookWheel_5 : ∀ w ∈ u_ws RX5 TX5 8, w ∈ wsX5_bookWheel := by decide +kernel
theorem fl_X5_bookWheel_23 : Cond.fieldLink RX5 23 (TX5 1).1 (TX5 1).2.1 (TX5 1).2.2.1 ∈ wsX5_bookWheel := by decide +kernel
theorem in_X5_bookWheel_0 : ∀ w ∈ u_ws RX0 TX0 3, w ∈ wsX5_bookWheel := by decide +kernel
abbrev rmX5_bookWheel : Room := { frames := 3, cells := 0, slots := 0, locals := 68 }
set_option maxHeartbeats 4000000 in
set_option maxRecDepth 100000 in
theorem k_X5_bookWheel (l : Launch) {k : gK} {L : List Nat} {f : Nat → va_E} (hL : L.Nodup) {a : Nat → Nat} {w : WS} (hW : isWS k L f a w) (q : Int32) (wh : Int32) (ah : Int32) : kM l k L f yX5_bookWheel wsX5_bookWheel rmX5_bookWheel [.ref (a 0), .int q, .int wh, .int ah] (wP k L a f (some (.int (vX5_bookWheel w q wh ah))) (wX5_bookWheel w q wh ah)) := by
  refine kM_of (cc := cX5_bookWheel) (maxL := 4) (ret := (some .int)) (by decide) rfl (Nat.le_of_ble_eq_true rfl) ?_
  intro p e s m args below meth c C hr
  have hD : gD (fun q => q ∈ L) L := ⟨hL, fun _ h => h⟩
  refine gx_lv [(0, _), (1, _), (2, _), (3, _)] [0, 1, 2, 3] rfl ?_
  refine gx_aload_n (q := 0) C dX5_bookWheel_0 rfl ?_
  refine gx_iload_n (q := 1) C dX5_bookWheel_1 rfl ?_
  refine gx_callR C (k_X5_hasPupil l hW _) (isWS_in hW 0 (Nat.le_of_ble_eq_true rfl)) (isWS_0 hW) rfl (cwV 1 C.2.2.2.2.1 gX5_bookWheel_X5_hasPupil rfl rfl rfl kdV_X5_hasPupil ⟨Nat.le_of_ble_eq_true rfl, Nat.le_of_ble_eq_true rfl⟩) rfl rfl (Nat.le_of_ble_eq_true rfl) ⟨Nat.le_of_ble_eq_true rfl, Nat.le_of_ble_eq_true rfl⟩ dX5_bookWheel_2 ?_
  refine gx_if_eq (tgt := 15) C dX5_bookWheel_5 (by decide) (fun c_5 => ?_) (fun c_5 => ?_)
  · skip
    have h_5 := bI0.mp c_5
    refine gx_iconst (v := (-1)) C dX5_bookWheel_15 (by decide) ?_
    exact gx_iretW C hr hW (gFr_rf (f := f)) dX5_bookWheel_16 ((if_neg (bF h_5)).trans (rfl)).symm ((if_neg (bF h_5)).trans (rfl)).symm
  · skip
    have h_5 := bI1.mp c_5
    refine gx_iload_n (q := 2) C dX5_bookWheel_8 rfl ?_
    refine gx_callRN C (k_X6_isWheel l (k := k) (L := L) _) ⟨va_cnB 1 C.2.2.2.2.1 gX5_bookWheel_X6_isWheel_n83 rfl rfl rfl (C.2.2.2.2.2.1.2.2 (RX5, 83, yX6_isWheel) (by decide +kernel)) (C.2.2.2.2.1 _ wd_X5_bookWheel_ini_RX6) kdN_X6_isWheel ⟨Nat.le_of_ble_eq_true rfl, Nat.le_of_ble_eq_true rfl⟩, C.2.2.2.2.1 _ wd_X5_bookWheel_st_X6_isWheel, trivial⟩ rfl rfl (Nat.le_of_ble_eq_true rfl) ⟨Nat.le_of_ble_eq_true rfl, Nat.le_of_ble_eq_true rfl⟩ dX5_bookWheel_9 ?_
    refine gx_if_ne (tgt := 17) C dX5_bookWheel_12 (by decide) (fun c_12 => ?_) (fun c_12 => ?_)
    · skip
      have h_12 := bI1.mp c_12
      refine gx_iload_n (q := 3) C dX5_bookWheel_17 rfl ?_
      refine gx_callRN C (k_X6_isAhead l (k := k) (L := L) _) ⟨va_cnB 1 C.2.2.2.2.1 gX5_bookWheel_X6_isAhead_n86 rfl rfl rfl (C.2.2.2.2.2.1.2.2 (RX5, 86, yX6_isAhead) (by decide +kernel)) (C.2.2.2.2.1 _ wd_X5_bookWheel_ini_RX6) kdN_X6_isAhead ⟨Nat.le_of_ble_eq_true rfl, Nat.le_of_ble_eq_true rfl⟩, C.2.2.2.2.1 _ wd_X5_bookWheel_st_X6_isAhead, trivial⟩ rfl rfl (Nat.le_of_ble_eq_true rfl) ⟨Nat.le_of_ble_eq_true rfl, Nat.le_of_ble_eq_true rfl⟩ dX5_bookWheel_18 ?_
      refine gx_if_ne (tgt := 27) C dX5_bookWheel_21 (by decide) (fun c_21 => ?_) (fun c_21 => ?_)
      · skip
        have h_21 := bI1.mp c_21
        refine gx_aload_n (q := 0) C dX5_bookWheel_27 rfl ?_
        refine gx_get C (i := 1) (isWS_in hW 0 (Nat.le_of_ble_eq_true rfl)) (isWS_0 hW) rfl in_X5_bookWheel_5 (by decide) fl_X5_bookWheel_23 rfl dX5_bookWheel_28 ?_
        refine gx_iload_n (q := 2) C dX5_bookWheel_31 rfl ?_
        refine gx_iload_n (q := 3) C dX5_bookWheel_32 rfl ?_
        refine gx_callR C (k_X0_bookerOf l hW _ _) (isWS_in hW 1 (Nat.le_of_ble_eq_true rfl)) (isWS_1 hW) rfl (cwV 2 C.2.2.2.2.1 gX5_bookWheel_X0_bookerOf rfl rfl rfl kdV_X0_bookerOf ⟨Nat.le_of_ble_eq_true rfl, Nat.le_of_ble_eq_true rfl⟩) rfl rfl (Nat.le_of_ble_eq_true rfl) ⟨Nat.le_of_ble_eq_true rfl, Nat.le_of_ble_eq_true rfl⟩ dX5_bookWheel_33 ?_
        refine gx_bipush (v := (-6)) C dX5_bookWheel_36 (by decide) ?_
        refine gx_icmp_ne (tgt := 55) C dX5_bookWheel_38 (by decide) (fun c_38 => ?_) (fun c_38 => ?_)
        · skip
          refine gx_bipush (v := (-5)) C dX5_bookWheel_55 (by decide) ?_
          exact gx_iretW C hr hW (gFr_rf (f := f)) dX5_bookWheel_57 ((if_pos h_5).trans ((if_pos h_12).trans ((if_pos h_21).trans ((if_neg c_38).trans (rfl))))).symm ((if_pos h_5).trans ((if_pos h_12).trans ((if_pos h_21).trans ((if_neg c_38).trans (rfl))))).symm
        · skip
          refine gx_aload_n (q := 0) C dX5_bookWheel_41 rfl ?_
          refine gx_get C (i := 1) (isWS_in hW 0 (Nat.le_of_ble_eq_true rfl)) (isWS_0 hW) rfl in_X5_bookWheel_5 (by decide) fl_X5_bookWheel_23 rfl dX5_bookWheel_42 ?_
          refine gx_iload_n (q := 1) C dX5_bookWheel_45 rfl ?_
          refine gx_iload_n (q := 3) C dX5_bookWheel_46 rfl ?_
          refine gx_callR C (k_X0_wheelOf l hW _ _) (isWS_in hW 1 (Nat.le_of_ble_eq_true rfl)) (isWS_1 hW) rfl (cwV 2 C.2.2.2.2.1 gX5_bookWheel_X0_wheelOf rfl rfl rfl kdV_X0_wheelOf ⟨Nat.le_of_ble_eq_true rfl, Nat.le_of_ble_eq_true rfl⟩) rfl rfl (Nat.le_of_ble_eq_true rfl) ⟨Nat.le_of_ble_eq_true rfl, Nat.le_of_ble_eq_true rfl⟩ dX5_bookWheel_47 ?_
          refine gx_bipush (v := (-6)) C dX5_bookWheel_50 (by decide) ?_
          refine gx_icmp_eq (tgt := 58) C dX5_bookWheel_52 (by decide) (fun c_52 => ?_) (fun c_52 => ?_)
          · skip
            refine gx_aload_n (q := 0) C dX5_bookWheel_58 rfl ?_
            refine gx_get C (i := 1) (isWS_in hW 0 (Nat.le_of_ble_eq_true rfl)) (isWS_0 hW) rfl in_X5_bookWheel_5 (by decide) fl_X5_bookWheel_23 rfl dX5_bookWheel_59 ?_
            refine gx_iload_n (q := 2) C dX5_bookWheel_62 rfl ?_
            refine gx_iload_n (q := 3) C dX5_bookWheel_63 rfl ?_
            refine gx_iload_n (q := 1) C dX5_bookWheel_64 rfl ?_
            refine gx_callWv C hD (gFr_rf (f := f)) (k_X0_enter l hL hW _ _ _) (isWS_in hW 1 (Nat.le_of_ble_eq_true rfl)) (isWS_1 hW) rfl (cwV 3 C.2.2.2.2.1 gX5_bookWheel_X0_enter rfl rfl rfl kdV_X0_enter ⟨Nat.le_of_ble_eq_true rfl, Nat.le_of_ble_eq_true rfl⟩) rfl rfl (Nat.le_of_ble_eq_true rfl) ⟨Nat.le_of_ble_eq_true rfl, Nat.le_of_ble_eq_true rfl⟩ dX5_bookWheel_65 (fun f_1 hW_1 hF_1 => ?_)
            refine gx_aload_n (q := 0) C dX5_bookWheel_68 rfl ?_
            refine gx_get C (i := 1) (isWS_in hW_1 0 (Nat.le_of_ble_eq_true rfl)) (isWS_0 hW_1) rfl in_X5_bookWheel_5 (by decide) fl_X5_bookWheel_23 rfl dX5_bookWheel_69 ?_
            refine gx_getN C (i := 1) (isWS_in hW_1 1 (Nat.le_of_ble_eq_true rfl)) (isWS_1 hW_1) rfl in_X5_bookWheel_0 (by decide) (by decide +kernel) rfl dX5_bookWheel_72 ?_
            refine gx_iload_n (q := 3) C dX5_bookWheel_75 rfl ?_
            refine gx_iadd C dX5_bookWheel_76 ?_
            exact gx_iretW C hr hW_1 hF_1 dX5_bookWheel_77 ((if_pos h_5).trans ((if_pos h_12).trans ((if_pos h_21).trans ((if_pos c_38).trans ((if_pos c_52).trans (rfl)))))).symm ((if_pos h_5).trans ((if_pos h_12).trans ((if_pos h_21).trans ((if_pos c_38).trans ((if_pos c_52).trans (rfl)))))).symm
          · skip
            refine gx_bipush (v := (-5)) C dX5_bookWheel_55 (by decide) ?_
            exact gx_iretW C hr hW (gFr_rf (f := f)) dX5_bookWheel_57 ((if_pos h_5).trans ((if_pos h_12).trans ((if_pos h_21).trans ((if_pos c_38).trans ((if_neg c_52).trans (rfl)))))).symm ((if_pos h_5).trans ((if_pos h_12).trans ((if_pos h_21).trans ((if_pos c_38).trans ((if_neg c_52).trans (rfl)))))).symm
      · skip
        have h_21 := bI0.mp c_21
        refine gx_bipush (v := (-2)) C dX5_bookWheel_24 (by decide) ?_
        exact gx_iretW C hr hW (gFr_rf (f := f)) dX5_bookWheel_26 ((if_pos h_5).trans ((if_pos h_12).trans ((if_neg (bF h_21)).trans (rfl)))).symm ((if_pos h_5).trans ((if_pos h_12).trans ((if_neg (bF h_21)).trans (rfl)))).symm
    · skip
      have h_12 := bI0.mp c_12
      refine gx_iconst (v := (-1)) C dX5_bookWheel_15 (by decide) ?_
      exact gx_iretW C hr hW (gFr_rf (f := f)) dX5_bookWheel_16 ((if_pos h_5).trans ((if_neg (bF h_12)).trans (rfl))).symm ((if_pos h_5).trans ((if_neg (bF h_12)).trans (rfl))).symm
theorem kdN_X5_cancelBooking : yX5_cancelBooking.cls ≠ "java/lang/invoke/MethodHandle" ∧ yX5_cancelBooking.cls ≠ "java/lang/invoke/VarHandle" ∧ (parseMethodDescriptor yX5_cancelBooking.desc).map (fun d => d.parameters.length) = some 2 := by decide +kernel
theorem kdV_X5_cancelBooking : yX5_cancelBooking.cls = RX5 ∧ yX5_cancelBooking.cls ≠ "java/lang/invoke/MethodHandle" ∧ yX5_cancelBooking.cls ≠ "java/lang/invoke/VarHandle" ∧ (parseMethodDescriptor yX5_cancelBooking.desc).map (fun d => d.parameters.length) = some 2 := ⟨rfl, kdN_X5_cancelBooking⟩
def vX5_cancelBooking (w : WS) (q : Int32) (ah : Int32) : Int32 := (if (vX5_hasPupil w q) = true then (if (isW ah 0 20) = true then (if (cWheel w q ah) = (-6) then (-5) else (if ah = 0 then (if (cThrown w q) = true then (-5) else (cWheel w q ah)) else (cWheel w q ah))) else (-2)) else (-1))
def wX5_cancelBooking (w : WS) (q : Int32) (ah : Int32) : WS := (if (vX5_hasPupil w q) = true then (if (isW ah 0 20) = true then (if (cWheel w q ah) = (-6) then w else (if ah = 0 then (if (cThrown w q) = true then w else (cCross w (cWheel w q ah) ah)) else (cCross w (cWheel w q ah) ah))) else w) else w)
theorem wd_X5_cancelBooking_ini_RX6 : Cond.initialized RX6 ∈ wsX5_cancelBooking := by decide +kernel
theorem wd_X5_cancelBooking_st_X6_isAhead : Cond.static yX6_isAhead ∈ wsX5_cancelBooking := by decide +kernel
theorem in_X5_cancelBooking_5 : ∀ w ∈ u_ws RX5 TX5 8, w ∈ wsX5_cancelBooking := by decide +kernel
theorem fl_X5_cancelBooking_23 : Cond.fieldLink RX5 23 (TX5 1).1 (TX5 1).2.1 (TX5 1).2.2.1 ∈ wsX5_cancelBooking := by decide +kernel
abbrev rmX5_cancelBooking : Room := { frames := 3, cells := 0, slots := 0, locals := 68 }
set_option maxHeartbeats 4000000 in
set_option maxRecDepth 100000 in
theorem k_X5_cancelBooking (l : Launch) {k : gK} {L : List Nat} {f : Nat → va_E} (hL : L.Nodup) {a : Nat → Nat} {w : WS} (hW : isWS k L f a w) (q : Int32) (ah : Int32) : kM l k L f yX5_cancelBooking wsX5_cancelBooking rmX5_cancelBooking [.ref (a 0), .int q, .int ah] (wP k L a f (some (.int (vX5_cancelBooking w q ah))) (wX5_cancelBooking w q ah)) := by
  refine kM_of (cc := cX5_cancelBooking) (maxL := 4) (ret := (some .int)) (by decide) rfl (Nat.le_of_ble_eq_true rfl) ?_
  intro p e s m args below meth c C hr
  have hD : gD (fun q => q ∈ L) L := ⟨hL, fun _ h => h⟩
  refine gx_lv [(0, _), (1, _), (2, _)] [0, 1, 2] rfl ?_
  refine gx_aload_n (q := 0) C dX5_cancelBooking_0 rfl ?_
  refine gx_iload_n (q := 1) C dX5_cancelBooking_1 rfl ?_
  refine gx_callR C (k_X5_hasPupil l hW _) (isWS_in hW 0 (Nat.le_of_ble_eq_true rfl)) (isWS_0 hW) rfl (cwV 1 C.2.2.2.2.1 gX5_cancelBooking_X5_hasPupil rfl rfl rfl kdV_X5_hasPupil ⟨Nat.le_of_ble_eq_true rfl, Nat.le_of_ble_eq_true rfl⟩) rfl rfl (Nat.le_of_ble_eq_true rfl) ⟨Nat.le_of_ble_eq_true rfl, Nat.le_of_ble_eq_true rfl⟩ dX5_cancelBooking_2 ?_
  refine gx_if_ne (tgt := 10) C dX5_cancelBooking_5 (by decide) (fun c_5 => ?_) (fun c_5 => ?_)
  · skip
    have h_5 := bI1.mp c_5
    refine gx_iload_n (q := 2) C dX5_cancelBooking_10 rfl ?_
    refine gx_callRN C (k_X6_isAhead l (k := k) (L := L) _) ⟨va_cnB 1 C.2.2.2.2.1 gX5_cancelBooking_X6_isAhead_n86 rfl rfl rfl (C.2.2.2.2.2.1.2.2 (RX5, 86, yX6_isAhead) (by decide +kernel)) (C.2.2.2.2.1 _ wd_X5_cancelBooking_ini_RX6) kdN_X6_isAhead ⟨Nat.le_of_ble_eq_true rfl, Nat.le_of_ble_eq_true rfl⟩, C.2.2.2.2.1 _ wd_X5_cancelBooking_st_X6_isAhead, trivial⟩ rfl rfl (Nat.le_of_ble_eq_true rfl) ⟨Nat.le_of_ble_eq_true rfl, Nat.le_of_ble_eq_true rfl⟩ dX5_cancelBooking_11 ?_
    refine gx_if_ne (tgt := 20) C dX5_cancelBooking_14 (by decide) (fun c_14 => ?_) (fun c_14 => ?_)
    · skip
      have h_14 := bI1.mp c_14
      refine gx_aload_n (q := 0) C dX5_cancelBooking_20 rfl ?_
      refine gx_get C (i := 1) (isWS_in hW 0 (Nat.le_of_ble_eq_true rfl)) (isWS_0 hW) rfl in_X5_cancelBooking_5 (by decide) fl_X5_cancelBooking_23 rfl dX5_cancelBooking_21 ?_
      refine gx_iload_n (q := 1) C dX5_cancelBooking_24 rfl ?_
      refine gx_iload_n (q := 2) C dX5_cancelBooking_25 rfl ?_
      refine gx_callR C (k_X0_wheelOf l hW _ _) (isWS_in hW 1 (Nat.le_of_ble_eq_true rfl)) (isWS_1 hW) rfl (cwV 2 C.2.2.2.2.1 gX5_cancelBooking_X0_wheelOf rfl rfl rfl kdV_X0_wheelOf ⟨Nat.le_of_ble_eq_true rfl, Nat.le_of_ble_eq_true rfl⟩) rfl rfl (Nat.le_of_ble_eq_true rfl) ⟨Nat.le_of_ble_eq_true rfl, Nat.le_of_ble_eq_true rfl⟩ dX5_cancelBooking_26 ?_
      refine gx_istore_n C (i := 3) [(3, _), (0, _), (1, _), (2, _)] dX5_cancelBooking_29 rfl (by decide) rfl ?_
      refine gx_iload_n (q := 0) C dX5_cancelBooking_30 rfl ?_
      refine gx_bipush (v := (-6)) C dX5_cancelBooking_31 (by decide) ?_
      refine gx_icmp_eq (tgt := 51) C dX5_cancelBooking_33 (by decide) (fun c_33 => ?_) (fun c_33 => ?_)
      · skip
        refine gx_bipush (v := (-5)) C dX5_cancelBooking_51 (by decide) ?_
        exact gx_iretW C hr hW (gFr_rf (f := f)) dX5_cancelBooking_53 ((if_pos h_5).trans ((if_pos h_14).trans ((if_pos c_33).trans (rfl)))).symm ((if_pos h_5).trans ((if_pos h_14).trans ((if_pos c_33).trans (rfl)))).symm
      · skip
        refine gx_iload_n (q := 3) C dX5_cancelBooking_36 rfl ?_
        refine gx_if_ne (tgt := 54) C dX5_cancelBooking_37 (by decide) (fun c_37 => ?_) (fun c_37 => ?_)
        · skip
          refine gx_aload_n (q := 1) C dX5_cancelBooking_54 rfl ?_
          refine gx_get C (i := 1) (isWS_in hW 0 (Nat.le_of_ble_eq_true rfl)) (isWS_0 hW) rfl in_X5_cancelBooking_5 (by decide) fl_X5_cancelBooking_23 rfl dX5_cancelBooking_55 ?_
          refine gx_iload_n (q := 0) C dX5_cancelBooking_58 rfl ?_
          refine gx_iload_n (q := 3) C dX5_cancelBooking_59 rfl ?_
          refine gx_callWv C hD (gFr_rf (f := f)) (k_X0_cross l hL hW _ _) (isWS_in hW 1 (Nat.le_of_ble_eq_true rfl)) (isWS_1 hW) rfl (cwV 2 C.2.2.2.2.1 gX5_cancelBooking_X0_cross rfl rfl rfl kdV_X0_cross ⟨Nat.le_of_ble_eq_true rfl, Nat.le_of_ble_eq_true rfl⟩) rfl rfl (Nat.le_of_ble_eq_true rfl) ⟨Nat.le_of_ble_eq_true rfl, Nat.le_of_ble_eq_true rfl⟩ dX5_cancelBooking_60 (fun f_1 hW_1 hF_1 => ?_)
          refine gx_iload_n (q := 0) C dX5_cancelBooking_63 rfl ?_
          exact gx_iretW C hr hW_1 hF_1 dX5_cancelBooking_64 ((if_pos h_5).trans ((if_pos h_14).trans ((if_neg c_33).trans ((if_neg c_37).trans (rfl))))).symm ((if_pos h_5).trans ((if_pos h_14).trans ((if_neg c_33).trans ((if_neg c_37).trans (rfl))))).symm
        · skip
          refine gx_aload_n (q := 1) C dX5_cancelBooking_40 rfl ?_
          refine gx_get C (i := 1) (isWS_in hW 0 (Nat.le_of_ble_eq_true rfl)) (isWS_0 hW) rfl in_X5_cancelBooking_5 (by decide) fl_X5_cancelBooking_23 rfl dX5_cancelBooking_41 ?_
          refine gx_iload_n (q := 2) C dX5_cancelBooking_44 rfl ?_
          refine gx_callR C (k_X0_hasThrownTonight l hW _) (isWS_in hW 1 (Nat.le_of_ble_eq_true rfl)) (isWS_1 hW) rfl (cwV 1 C.2.2.2.2.1 gX5_cancelBooking_X0_hasThrownTonight rfl rfl rfl kdV_X0_hasThrownTonight ⟨Nat.le_of_ble_eq_true rfl, Nat.le_of_ble_eq_true rfl⟩) rfl rfl (Nat.le_of_ble_eq_true rfl) ⟨Nat.le_of_ble_eq_true rfl, Nat.le_of_ble_eq_true rfl⟩ dX5_cancelBooking_45 ?_
          refine gx_if_eq (tgt := 54) C dX5_cancelBooking_48 (by decide) (fun c_48 => ?_) (fun c_48 => ?_)
          · skip
            have h_48 := bI0.mp c_48
            refine gx_aload_n (q := 1) C dX5_cancelBooking_54 rfl ?_
            refine gx_get C (i := 1) (isWS_in hW 0 (Nat.le_of_ble_eq_true rfl)) (isWS_0 hW) rfl in_X5_cancelBooking_5 (by decide) fl_X5_cancelBooking_23 rfl dX5_cancelBooking_55 ?_
            refine gx_iload_n (q := 0) C dX5_cancelBooking_58 rfl ?_
            refine gx_iload_n (q := 3) C dX5_cancelBooking_59 rfl ?_
            refine gx_callWv C hD (gFr_rf (f := f)) (k_X0_cross l hL hW _ _) (isWS_in hW 1 (Nat.le_of_ble_eq_true rfl)) (isWS_1 hW) rfl (cwV 2 C.2.2.2.2.1 gX5_cancelBooking_X0_cross rfl rfl rfl kdV_X0_cross ⟨Nat.le_of_ble_eq_true rfl, Nat.le_of_ble_eq_true rfl⟩) rfl rfl (Nat.le_of_ble_eq_true rfl) ⟨Nat.le_of_ble_eq_true rfl, Nat.le_of_ble_eq_true rfl⟩ dX5_cancelBooking_60 (fun f_2 hW_2 hF_2 => ?_)
            refine gx_iload_n (q := 0) C dX5_cancelBooking_63 rfl ?_
            exact gx_iretW C hr hW_2 hF_2 dX5_cancelBooking_64 ((if_pos h_5).trans ((if_pos h_14).trans ((if_neg c_33).trans ((if_pos c_37).trans ((if_neg (bF h_48)).trans (rfl)))))).symm ((if_pos h_5).trans ((if_pos h_14).trans ((if_neg c_33).trans ((if_pos c_37).trans ((if_neg (bF h_48)).trans (rfl)))))).symm
          · skip
            have h_48 := bI1.mp c_48
            refine gx_bipush (v := (-5)) C dX5_cancelBooking_51 (by decide) ?_
            exact gx_iretW C hr hW (gFr_rf (f := f)) dX5_cancelBooking_53 ((if_pos h_5).trans ((if_pos h_14).trans ((if_neg c_33).trans ((if_pos c_37).trans ((if_pos h_48).trans (rfl)))))).symm ((if_pos h_5).trans ((if_pos h_14).trans ((if_neg c_33).trans ((if_pos c_37).trans ((if_pos h_48).trans (rfl)))))).symm
    · skip
      have h_14 := bI0.mp c_14
      refine gx_bipush (v := (-2)) C dX5_cancelBooking_17 (by decide) ?_
      exact gx_iretW C hr hW (gFr_rf (f := f)) dX5_cancelBooking_19 ((if_pos h_5).trans ((if_neg (bF h_14)).trans (rfl))).symm ((if_pos h_5).trans ((if_neg (bF h_14)).trans (rfl))).symm
  · skip
    have h_5 := bI0.mp c_5
    refine gx_iconst (v := (-1)) C dX5_cancelBooking_8 (by decide) ?_
    exact gx_iretW C hr hW (gFr_rf (f := f)) dX5_cancelBooking_9 ((if_neg (bF h_5)).trans (rfl)).symm ((if_neg (bF h_5)).trans (rfl)).symm
theorem kdN_X5_bookerOf : yX5_bookerOf.cls ≠ "java/lang/invoke/MethodHandle" ∧ yX5_bookerOf.cls ≠ "java/lang/invoke/VarHandle" ∧ (parseMethodDescriptor yX5_bookerOf.desc).map (fun d => d.parameters.length) = some 2 := by decide +kernel
theorem kdV_X5_bookerOf : yX5_bookerOf.cls = RX5 ∧ yX5_bookerOf.cls ≠ "java/lang/invoke/MethodHandle" ∧ yX5_bookerOf.cls ≠ "java/lang/invoke/VarHandle" ∧ (parseMethodDescriptor yX5_bookerOf.desc).map (fun d => d.parameters.length) = some 2 := ⟨rfl, kdN_X5_bookerOf⟩
def vX5_bookerOf (w : WS) (wh : Int32) (ah : Int32) : Int32 := (if (isW wh 0 4) = true then (if (isW ah 0 20) = true then (cBooker w wh ah) else (-2)) else (-1))
theorem wd_X5_bookerOf_ini_RX6 : Cond.initialized RX6 ∈ wsX5_bookerOf := by decide +kernel
theorem wd_X5_bookerOf_st_X6_isWheel : Cond.static yX6_isWheel ∈ wsX5_bookerOf := by decide +kernel
theorem wd_X5_bookerOf_st_X6_isAhead : Cond.static yX6_isAhead ∈ wsX5_bookerOf := by decide +kernel
theorem in_X5_bookerOf_5 : ∀ w ∈ u_ws RX5 TX5 8, w ∈ wsX5_bookerOf := by decide +kernel
theorem fl_X5_bookerOf_23 : Cond.fieldLink RX5 23 (TX5 1).1 (TX5 1).2.1 (TX5 1).2.2.1 ∈ wsX5_bookerOf := by decide +kernel
abbrev rmX5_bookerOf : Room := { frames := 2, cells := 0, slots := 0, locals := 45 }
set_option maxHeartbeats 4000000 in
set_option maxRecDepth 100000 in
theorem k_X5_bookerOf (l : Launch) {k : gK} {L : List Nat} {f : Nat → va_E} {a : Nat → Nat} {w : WS} (hW : isWS k L f a w) (wh : Int32) (ah : Int32) : kR l k L f yX5_bookerOf wsX5_bookerOf rmX5_bookerOf [.ref (a 0), .int wh, .int ah] (.int (vX5_bookerOf w wh ah)) := by
  refine kR_of (cc := cX5_bookerOf) (maxL := 3) (ret := (some .int)) (by decide) rfl (Nat.le_of_ble_eq_true rfl) ?_
  intro p e s m args below meth c C hr
  refine gx_lv [(0, _), (1, _), (2, _)] [0, 1, 2] rfl ?_
  refine gx_iload_n (q := 1) C dX5_bookerOf_0 rfl ?_
  refine gx_callRN C (k_X6_isWheel l (k := k) (L := L) _) ⟨va_cnB 1 C.2.2.2.2.1 gX5_bookerOf_X6_isWheel_n83 rfl rfl rfl (C.2.2.2.2.2.1.2.2 (RX5, 83, yX6_isWheel) (by decide +kernel)) (C.2.2.2.2.1 _ wd_X5_bookerOf_ini_RX6) kdN_X6_isWheel ⟨Nat.le_of_ble_eq_true rfl, Nat.le_of_ble_eq_true rfl⟩, C.2.2.2.2.1 _ wd_X5_bookerOf_st_X6_isWheel, trivial⟩ rfl rfl (Nat.le_of_ble_eq_true rfl) ⟨Nat.le_of_ble_eq_true rfl, Nat.le_of_ble_eq_true rfl⟩ dX5_bookerOf_1 ?_
  refine gx_if_ne (tgt := 9) C dX5_bookerOf_4 (by decide) (fun c_4 => ?_) (fun c_4 => ?_)
  · skip
    have h_4 := bI1.mp c_4
    refine gx_iload_n (q := 2) C dX5_bookerOf_9 rfl ?_
    refine gx_callRN C (k_X6_isAhead l (k := k) (L := L) _) ⟨va_cnB 1 C.2.2.2.2.1 gX5_bookerOf_X6_isAhead_n86 rfl rfl rfl (C.2.2.2.2.2.1.2.2 (RX5, 86, yX6_isAhead) (by decide +kernel)) (C.2.2.2.2.1 _ wd_X5_bookerOf_ini_RX6) kdN_X6_isAhead ⟨Nat.le_of_ble_eq_true rfl, Nat.le_of_ble_eq_true rfl⟩, C.2.2.2.2.1 _ wd_X5_bookerOf_st_X6_isAhead, trivial⟩ rfl rfl (Nat.le_of_ble_eq_true rfl) ⟨Nat.le_of_ble_eq_true rfl, Nat.le_of_ble_eq_true rfl⟩ dX5_bookerOf_10 ?_
    refine gx_if_eq (tgt := 28) C dX5_bookerOf_13 (by decide) (fun c_13 => ?_) (fun c_13 => ?_)
    · skip
      have h_13 := bI0.mp c_13
      refine gx_bipush (v := (-2)) C dX5_bookerOf_28 (by decide) ?_
      exact gx_iretR C rfl hr dX5_bookerOf_30 (congrArg Value.int ((if_pos h_4).trans ((if_neg (bF h_13)).trans (rfl))).symm)
    · skip
      have h_13 := bI1.mp c_13
      refine gx_aload_n (q := 0) C dX5_bookerOf_16 rfl ?_
      refine gx_get C (i := 1) (isWS_in hW 0 (Nat.le_of_ble_eq_true rfl)) (isWS_0 hW) rfl in_X5_bookerOf_5 (by decide) fl_X5_bookerOf_23 rfl dX5_bookerOf_17 ?_
      refine gx_iload_n (q := 1) C dX5_bookerOf_20 rfl ?_
      refine gx_iload_n (q := 2) C dX5_bookerOf_21 rfl ?_
      refine gx_callR C (k_X0_bookerOf l hW _ _) (isWS_in hW 1 (Nat.le_of_ble_eq_true rfl)) (isWS_1 hW) rfl (cwV 2 C.2.2.2.2.1 gX5_bookerOf_X0_bookerOf rfl rfl rfl kdV_X0_bookerOf ⟨Nat.le_of_ble_eq_true rfl, Nat.le_of_ble_eq_true rfl⟩) rfl rfl (Nat.le_of_ble_eq_true rfl) ⟨Nat.le_of_ble_eq_true rfl, Nat.le_of_ble_eq_true rfl⟩ dX5_bookerOf_22 ?_
      refine gx_goto (tgt := 30) C dX5_bookerOf_25 (by decide) ?_
      exact gx_iretR C rfl hr dX5_bookerOf_30 (congrArg Value.int ((if_pos h_4).trans ((if_pos h_13).trans (rfl))).symm)
  · skip
    have h_4 := bI0.mp c_4
    refine gx_iconst (v := (-1)) C dX5_bookerOf_7 (by decide) ?_
    exact gx_iretR C rfl hr dX5_bookerOf_8 (congrArg Value.int ((if_neg (bF h_4)).trans (rfl)).symm)
theorem kdN_X5_drawFault : yX5_drawFault.cls ≠ "java/lang/invoke/MethodHandle" ∧ yX5_drawFault.cls ≠ "java/lang/invoke/VarHandle" ∧ (parseMethodDescriptor yX5_drawFault.desc).map (fun d => d.parameters.length) = some 0 := by decide +kernel
theorem kdV_X5_drawFault : yX5_drawFault.cls = RX5 ∧ yX5_drawFault.cls ≠ "java/lang/invoke/MethodHandle" ∧ yX5_drawFault.cls ≠ "java/lang/invoke/VarHandle" ∧ (parseMethodDescriptor yX5_drawFault.desc).map (fun d => d.parameters.length) = some 0 := ⟨rfl, kdN_X5_drawFault⟩
def vX5_drawFault (w : WS)  : Int32 := ((((wSc w 4 (((75 * (w.2 4)) + 74) - ((75 * (w.2 4)) + 74) / 65537 * 65537)).2 4) / 8) - (((wSc w 4 (((75 * (w.2 4)) + 74) - ((75 * (w.2 4)) + 74) / 65537 * 65537)).2 4) / 8) / 10 * 10)
def wX5_drawFault (w : WS)  : WS := (wSc w 4 (((75 * (w.2 4)) + 74) - ((75 * (w.2 4)) + 74) / 65537 * 65537))
theorem in_X5_drawFault_5 : ∀ w ∈ u_ws RX5 TX5 8, w ∈ wsX5_drawFault := by decide +kernel
theorem fl_X5_drawFault_40 : Cond.fieldLink RX5 40 (TX5 6).1 (TX5 6).2.1 (TX5 6).2.2.1 ∈ wsX5_drawFault := by decide +kernel
theorem wd_X5_drawFault_k132 : Cond.constant RX5 132 (65537) ∈ wsX5_drawFault := by decide +kernel
abbrev rmX5_drawFault : Room := { frames := 0, cells := 0, slots := 0, locals := 0 }
set_option maxHeartbeats 4000000 in
set_option maxRecDepth 100000 in
theorem k_X5_drawFault (l : Launch) {k : gK} {L : List Nat} {f : Nat → va_E} (hL : L.Nodup) {a : Nat → Nat} {w : WS} (hW : isWS k L f a w)  : kM l k L f yX5_drawFault wsX5_drawFault rmX5_drawFault [.ref (a 0)] (wP k L a f (some (.int (vX5_drawFault w ))) (wX5_drawFault w )) := by
  refine kM_of (cc := cX5_drawFault) (maxL := 1) (ret := (some .int)) (by decide) rfl (Nat.le_of_ble_eq_true rfl) ?_
  intro p e s m args below meth c C hr
  have hD : gD (fun q => q ∈ L) L := ⟨hL, fun _ h => h⟩
  refine gx_lv [(0, _)] [0] rfl ?_
  refine gx_aload_n (q := 0) C dX5_drawFault_0 rfl ?_
  refine gx_bipush (v := 75) C dX5_drawFault_1 (by decide) ?_
  refine gx_aload_n (q := 0) C dX5_drawFault_3 rfl ?_
  refine gx_get C (i := 6) (isWS_in hW 0 (Nat.le_of_ble_eq_true rfl)) (isWS_0 hW) rfl in_X5_drawFault_5 (by decide) fl_X5_drawFault_40 rfl dX5_drawFault_4 ?_
  refine gx_imul C dX5_drawFault_7 ?_
  refine gx_bipush (v := 74) C dX5_drawFault_8 (by decide) ?_
  refine gx_iadd C dX5_drawFault_10 ?_
  refine gx_ldc C wd_X5_drawFault_k132 dX5_drawFault_11 ?_
  refine gx_irem C (by decide) dX5_drawFault_13 ?_
  refine gx_put C hD (i := 6) (ty := .int) tyX5_ok nmX5 (isWS_in hW 0 (Nat.le_of_ble_eq_true rfl)) (isWS_0 hW) rfl in_X5_drawFault_5 (by decide) fl_X5_drawFault_40 rfl (by decide +kernel) rfl rfl (Nat.le_of_ble_eq_true rfl) rfl dX5_drawFault_14 ?_
  refine gx_w4 hW (gFr_rf (f := f)) (fun f_1 hW_1 hF_1 => ?_)
  refine gx_aload_n (q := 0) C dX5_drawFault_17 rfl ?_
  refine gx_get C (i := 6) (isWS_in hW_1 0 (Nat.le_of_ble_eq_true rfl)) (isWS_0 hW_1) rfl in_X5_drawFault_5 (by decide) fl_X5_drawFault_40 rfl dX5_drawFault_18 ?_
  refine gx_bipush (v := 8) C dX5_drawFault_21 (by decide) ?_
  refine gx_idiv C (by decide) dX5_drawFault_23 ?_
  refine gx_bipush (v := 10) C dX5_drawFault_24 (by decide) ?_
  refine gx_irem C (by decide) dX5_drawFault_26 ?_
  exact gx_iretW C hr hW_1 hF_1 dX5_drawFault_27 (rfl).symm (rfl).symm
theorem kdN_X3_addClay : yX3_addClay.cls ≠ "java/lang/invoke/MethodHandle" ∧ yX3_addClay.cls ≠ "java/lang/invoke/VarHandle" ∧ (parseMethodDescriptor yX3_addClay.desc).map (fun d => d.parameters.length) = some 3 := by decide +kernel
theorem kdV_X3_addClay : yX3_addClay.cls = RX3 ∧ yX3_addClay.cls ≠ "java/lang/invoke/MethodHandle" ∧ yX3_addClay.cls ≠ "java/lang/invoke/VarHandle" ∧ (parseMethodDescriptor yX3_addClay.desc).map (fun d => d.parameters.length) = some 3 := ⟨rfl, kdN_X3_addClay⟩
def vX3_addClay (w : WS) (q : Int32) (sz : Int32) (fl : Int32) : Int32 := (w.2 2)
def wX3_addClay (w : WS) (q : Int32) (sz : Int32) (fl : Int32) : WS := (wSc (cPutRack (wRow (wRow (wRow (wRow (wRow (wRow w 2 (rPut 20 (w.1 2) (w.2 2) q)) 3 (rPut 20 ((wRow w 2 (rPut 20 (w.1 2) (w.2 2) q)).1 3) (w.2 2) sz)) 4 (rPut 20 ((wRow (wRow w 2 (rPut 20 (w.1 2) (w.2 2) q)) 3 (rPut 20 ((wRow w 2 (rPut 20 (w.1 2) (w.2 2) q)).1 3) (w.2 2) sz)).1 4) (w.2 2) fl)) 5 (rPut 20 ((wRow (wRow (wRow w 2 (rPut 20 (w.1 2) (w.2 2) q)) 3 (rPut 20 ((wRow w 2 (rPut 20 (w.1 2) (w.2 2) q)).1 3) (w.2 2) sz)) 4 (rPut 20 ((wRow (wRow w 2 (rPut 20 (w.1 2) (w.2 2) q)) 3 (rPut 20 ((wRow w 2 (rPut 20 (w.1 2) (w.2 2) q)).1 3) (w.2 2) sz)).1 4) (w.2 2) fl)).1 5) (w.2 2) 0)) 7 (rPut 20 ((wRow (wRow (wRow (wRow w 2 (rPut 20 (w.1 2) (w.2 2) q)) 3 (rPut 20 ((wRow w 2 (rPut 20 (w.1 2) (w.2 2) q)).1 3) (w.2 2) sz)) 4 (rPut 20 ((wRow (wRow w 2 (rPut 20 (w.1 2) (w.2 2) q)) 3 (rPut 20 ((wRow w 2 (rPut 20 (w.1 2) (w.2 2) q)).1 3) (w.2 2) sz)).1 4) (w.2 2) fl)) 5 (rPut 20 ((wRow (wRow (wRow w 2 (rPut 20 (w.1 2) (w.2 2) q)) 3 (rPut 20 ((wRow w 2 (rPut 20 (w.1 2) (w.2 2) q)).1 3) (w.2 2) sz)) 4 (rPut 20 ((wRow (wRow w 2 (rPut 20 (w.1 2) (w.2 2) q)) 3 (rPut 20 ((wRow w 2 (rPut 20 (w.1 2) (w.2 2) q)).1 3) (w.2 2) sz)).1 4) (w.2 2) fl)).1 5) (w.2 2) 0)).1 7) (w.2 2) 0)) 9 (rPut 20 ((wRow (wRow (wRow (wRow (wRow w 2 (rPut 20 (w.1 2) (w.2 2) q)) 3 (rPut 20 ((wRow w 2 (rPut 20 (w.1 2) (w.2 2) q)).1 3) (w.2 2) sz)) 4 (rPut 20 ((wRow (wRow w 2 (rPut 20 (w.1 2) (w.2 2) q)) 3 (rPut 20 ((wRow w 2 (rPut 20 (w.1 2) (w.2 2) q)).1 3) (w.2 2) sz)).1 4) (w.2 2) fl)) 5 (rPut 20 ((wRow (wRow (wRow w 2 (rPut 20 (w.1 2) (w.2 2) q)) 3 (rPut 20 ((wRow w 2 (rPut 20 (w.1 2) (w.2 2) q)).1 3) (w.2 2) sz)) 4 (rPut 20 ((wRow (wRow w 2 (rPut 20 (w.1 2) (w.2 2) q)) 3 (rPut 20 ((wRow w 2 (rPut 20 (w.1 2) (w.2 2) q)).1 3) (w.2 2) sz)).1 4) (w.2 2) fl)).1 5) (w.2 2) 0)) 7 (rPut 20 ((wRow (wRow (wRow (wRow w 2 (rPut 20 (w.1 2) (w.2 2) q)) 3 (rPut 20 ((wRow w 2 (rPut 20 (w.1 2) (w.2 2) q)).1 3) (w.2 2) sz)) 4 (rPut 20 ((wRow (wRow w 2 (rPut 20 (w.1 2) (w.2 2) q)) 3 (rPut 20 ((wRow w 2 (rPut 20 (w.1 2) (w.2 2) q)).1 3) (w.2 2) sz)).1 4) (w.2 2) fl)) 5 (rPut 20 ((wRow (wRow (wRow w 2 (rPut 20 (w.1 2) (w.2 2) q)) 3 (rPut 20 ((wRow w 2 (rPut 20 (w.1 2) (w.2 2) q)).1 3) (w.2 2) sz)) 4 (rPut 20 ((wRow (wRow w 2 (rPut 20 (w.1 2) (w.2 2) q)) 3 (rPut 20 ((wRow w 2 (rPut 20 (w.1 2) (w.2 2) q)).1 3) (w.2 2) sz)).1 4) (w.2 2) fl)).1 5) (w.2 2) 0)).1 7) (w.2 2) 0)).1 9) (w.2 2) 0)) (w.2 2)) 2 (((cPutRack (wRow (wRow (wRow (wRow (wRow (wRow w 2 (rPut 20 (w.1 2) (w.2 2) q)) 3 (rPut 20 ((wRow w 2 (rPut 20 (w.1 2) (w.2 2) q)).1 3) (w.2 2) sz)) 4 (rPut 20 ((wRow (wRow w 2 (rPut 20 (w.1 2) (w.2 2) q)) 3 (rPut 20 ((wRow w 2 (rPut 20 (w.1 2) (w.2 2) q)).1 3) (w.2 2) sz)).1 4) (w.2 2) fl)) 5 (rPut 20 ((wRow (wRow (wRow w 2 (rPut 20 (w.1 2) (w.2 2) q)) 3 (rPut 20 ((wRow w 2 (rPut 20 (w.1 2) (w.2 2) q)).1 3) (w.2 2) sz)) 4 (rPut 20 ((wRow (wRow w 2 (rPut 20 (w.1 2) (w.2 2) q)) 3 (rPut 20 ((wRow w 2 (rPut 20 (w.1 2) (w.2 2) q)).1 3) (w.2 2) sz)).1 4) (w.2 2) fl)).1 5) (w.2 2) 0)) 7 (rPut 20 ((wRow (wRow (wRow (wRow w 2 (rPut 20 (w.1 2) (w.2 2) q)) 3 (rPut 20 ((wRow w 2 (rPut 20 (w.1 2) (w.2 2) q)).1 3) (w.2 2) sz)) 4 (rPut 20 ((wRow (wRow w 2 (rPut 20 (w.1 2) (w.2 2) q)) 3 (rPut 20 ((wRow w 2 (rPut 20 (w.1 2) (w.2 2) q)).1 3) (w.2 2) sz)).1 4) (w.2 2) fl)) 5 (rPut 20 ((wRow (wRow (wRow w 2 (rPut 20 (w.1 2) (w.2 2) q)) 3 (rPut 20 ((wRow w 2 (rPut 20 (w.1 2) (w.2 2) q)).1 3) (w.2 2) sz)) 4 (rPut 20 ((wRow (wRow w 2 (rPut 20 (w.1 2) (w.2 2) q)) 3 (rPut 20 ((wRow w 2 (rPut 20 (w.1 2) (w.2 2) q)).1 3) (w.2 2) sz)).1 4) (w.2 2) fl)).1 5) (w.2 2) 0)).1 7) (w.2 2) 0)) 9 (rPut 20 ((wRow (wRow (wRow (wRow (wRow w 2 (rPut 20 (w.1 2) (w.2 2) q)) 3 (rPut 20 ((wRow w 2 (rPut 20 (w.1 2) (w.2 2) q)).1 3) (w.2 2) sz)) 4 (rPut 20 ((wRow (wRow w 2 (rPut 20 (w.1 2) (w.2 2) q)) 3 (rPut 20 ((wRow w 2 (rPut 20 (w.1 2) (w.2 2) q)).1 3) (w.2 2) sz)).1 4) (w.2 2) fl)) 5 (rPut 20 ((wRow (wRow (wRow w 2 (rPut 20 (w.1 2) (w.2 2) q)) 3 (rPut 20 ((wRow w 2 (rPut 20 (w.1 2) (w.2 2) q)).1 3) (w.2 2) sz)) 4 (rPut 20 ((wRow (wRow w 2 (rPut 20 (w.1 2) (w.2 2) q)) 3 (rPut 20 ((wRow w 2 (rPut 20 (w.1 2) (w.2 2) q)).1 3) (w.2 2) sz)).1 4) (w.2 2) fl)).1 5) (w.2 2) 0)) 7 (rPut 20 ((wRow (wRow (wRow (wRow w 2 (rPut 20 (w.1 2) (w.2 2) q)) 3 (rPut 20 ((wRow w 2 (rPut 20 (w.1 2) (w.2 2) q)).1 3) (w.2 2) sz)) 4 (rPut 20 ((wRow (wRow w 2 (rPut 20 (w.1 2) (w.2 2) q)) 3 (rPut 20 ((wRow w 2 (rPut 20 (w.1 2) (w.2 2) q)).1 3) (w.2 2) sz)).1 4) (w.2 2) fl)) 5 (rPut 20 ((wRow (wRow (wRow w 2 (rPut 20 (w.1 2) (w.2 2) q)) 3 (rPut 20 ((wRow w 2 (rPut 20 (w.1 2) (w.2 2) q)).1 3) (w.2 2) sz)) 4 (rPut 20 ((wRow (wRow w 2 (rPut 20 (w.1 2) (w.2 2) q)) 3 (rPut 20 ((wRow w 2 (rPut 20 (w.1 2) (w.2 2) q)).1 3) (w.2 2) sz)).1 4) (w.2 2) fl)).1 5) (w.2 2) 0)).1 7) (w.2 2) 0)).1 9) (w.2 2) 0)) (w.2 2)).2 2) + 1))
theorem in_X3_addClay_3 : ∀ w ∈ u_ws RX3 TX3 9, w ∈ wsX3_addClay := by decide +kernel
theorem fl_X3_addClay_45 : Cond.fieldLink RX3 45 (TX3 8).1 (TX3 8).2.1 (TX3 8).2.2.1 ∈ wsX3_addClay := by decide +kernel
theorem fl_X3_addClay_14 : Cond.fieldLink RX3 14 (TX3 0).1 (TX3 0).2.1 (TX3 0).2.2.1 ∈ wsX3_addClay := by decide +kernel
theorem fl_X3_addClay_20 : Cond.fieldLink RX3 20 (TX3 1).1 (TX3 1).2.1 (TX3 1).2.2.1 ∈ wsX3_addClay := by decide +kernel
theorem fl_X3_addClay_23 : Cond.fieldLink RX3 23 (TX3 2).1 (TX3 2).2.1 (TX3 2).2.2.1 ∈ wsX3_addClay := by decide +kernel
theorem fl_X3_addClay_26 : Cond.fieldLink RX3 26 (TX3 3).1 (TX3 3).2.1 (TX3 3).2.2.1 ∈ wsX3_addClay := by decide +kernel
theorem fl_X3_addClay_32 : Cond.fieldLink RX3 32 (TX3 5).1 (TX3 5).2.1 (TX3 5).2.2.1 ∈ wsX3_addClay := by decide +kernel
theorem fl_X3_addClay_38 : Cond.fieldLink RX3 38 (TX3 7).1 (TX3 7).2.1 (TX3 7).2.2.1 ∈ wsX3_addClay := by decide +kernel
abbrev rmX3_addClay : Room := { frames := 3, cells := 0, slots := 0, locals := 67 }
set_option maxHeartbeats 4000000 in
set_option maxRecDepth 100000 in
theorem k_X3_addClay (l : Launch) {k : gK} {L : List Nat} {f : Nat → va_E} (hL : L.Nodup) {a : Nat → Nat} {w : WS} (hW : isWS k L f a w) (hN : wOK w) (q : Int32) (sz : Int32) (fl : Int32) : kM l k L f yX3_addClay wsX3_addClay rmX3_addClay [.ref (a 2), .int q, .int sz, .int fl] (wP k L a f (some (.int (vX3_addClay w q sz fl))) (wX3_addClay w q sz fl)) := by
  refine kM_of (cc := cX3_addClay) (maxL := 5) (ret := (some .int)) (by decide) rfl (Nat.le_of_ble_eq_true rfl) ?_
  intro p e s m args below meth c C hr
  have hD : gD (fun q => q ∈ L) L := ⟨hL, fun _ h => h⟩
  refine gx_lv [(0, _), (1, _), (2, _), (3, _)] [0, 1, 2, 3] rfl ?_
  refine gx_aload_n (q := 0) C dX3_addClay_0 rfl ?_
  refine gx_get C (i := 8) (isWS_in hW 2 (Nat.le_of_ble_eq_true rfl)) (isWS_2 hW) rfl in_X3_addClay_3 (by decide) fl_X3_addClay_45 rfl dX3_addClay_1 ?_
  refine gx_istore C [(4, _), (0, _), (1, _), (2, _), (3, _)] dX3_addClay_4 (by decide) rfl ?_
  refine gx_aload_n (q := 1) C dX3_addClay_6 rfl ?_
  refine gx_get C (i := 0) (isWS_in hW 2 (Nat.le_of_ble_eq_true rfl)) (isWS_2 hW) rfl in_X3_addClay_3 (by decide) fl_X3_addClay_14 rfl dX3_addClay_7 ?_
  refine gx_iload (q := 0) C dX3_addClay_10 rfl ?_
  refine gx_iload_n (q := 2) C dX3_addClay_12 rfl ?_
  refine gx_callWv C hD (gFr_rf (f := f)) (kw_X4_write l hL hW 2 (Nat.le_of_ble_eq_true rfl) 20 rfl _ _) (isWS_in hW 7 (Nat.le_of_ble_eq_true rfl)) (isWS_row hW 2 (Nat.le_of_ble_eq_true rfl)) rfl (cwV 2 C.2.2.2.2.1 gX3_addClay_X4_write rfl rfl rfl kdV_X4_write ⟨Nat.le_of_ble_eq_true rfl, Nat.le_of_ble_eq_true rfl⟩) rfl rfl (Nat.le_of_ble_eq_true rfl) ⟨Nat.le_of_ble_eq_true rfl, Nat.le_of_ble_eq_true rfl⟩ dX3_addClay_13 (fun f_1 hW_1 hF_1 => ?_)
  refine gx_aload_n (q := 1) C dX3_addClay_16 rfl ?_
  refine gx_get C (i := 1) (isWS_in hW_1 2 (Nat.le_of_ble_eq_true rfl)) (isWS_2 hW_1) rfl in_X3_addClay_3 (by decide) fl_X3_addClay_20 rfl dX3_addClay_17 ?_
  refine gx_iload (q := 0) C dX3_addClay_20 rfl ?_
  refine gx_iload_n (q := 3) C dX3_addClay_22 rfl ?_
  refine gx_callWv C hD hF_1 (kw_X4_write l hL hW_1 3 (Nat.le_of_ble_eq_true rfl) 20 rfl _ _) (isWS_in hW_1 9 (Nat.le_of_ble_eq_true rfl)) (isWS_row hW_1 3 (Nat.le_of_ble_eq_true rfl)) rfl (cwV 2 C.2.2.2.2.1 gX3_addClay_X4_write rfl rfl rfl kdV_X4_write ⟨Nat.le_of_ble_eq_true rfl, Nat.le_of_ble_eq_true rfl⟩) rfl rfl (Nat.le_of_ble_eq_true rfl) ⟨Nat.le_of_ble_eq_true rfl, Nat.le_of_ble_eq_true rfl⟩ dX3_addClay_23 (fun f_2 hW_2 hF_2 => ?_)
  refine gx_aload_n (q := 1) C dX3_addClay_26 rfl ?_
  refine gx_get C (i := 2) (isWS_in hW_2 2 (Nat.le_of_ble_eq_true rfl)) (isWS_2 hW_2) rfl in_X3_addClay_3 (by decide) fl_X3_addClay_23 rfl dX3_addClay_27 ?_
  refine gx_iload (q := 0) C dX3_addClay_30 rfl ?_
  refine gx_iload_n (q := 4) C dX3_addClay_32 rfl ?_
  refine gx_callWv C hD hF_2 (kw_X4_write l hL hW_2 4 (Nat.le_of_ble_eq_true rfl) 20 rfl _ _) (isWS_in hW_2 11 (Nat.le_of_ble_eq_true rfl)) (isWS_row hW_2 4 (Nat.le_of_ble_eq_true rfl)) rfl (cwV 2 C.2.2.2.2.1 gX3_addClay_X4_write rfl rfl rfl kdV_X4_write ⟨Nat.le_of_ble_eq_true rfl, Nat.le_of_ble_eq_true rfl⟩) rfl rfl (Nat.le_of_ble_eq_true rfl) ⟨Nat.le_of_ble_eq_true rfl, Nat.le_of_ble_eq_true rfl⟩ dX3_addClay_33 (fun f_3 hW_3 hF_3 => ?_)
  refine gx_aload_n (q := 1) C dX3_addClay_36 rfl ?_
  refine gx_get C (i := 3) (isWS_in hW_3 2 (Nat.le_of_ble_eq_true rfl)) (isWS_2 hW_3) rfl in_X3_addClay_3 (by decide) fl_X3_addClay_26 rfl dX3_addClay_37 ?_
  refine gx_iload (q := 0) C dX3_addClay_40 rfl ?_
  refine gx_iconst (v := 0) C dX3_addClay_42 (by decide) ?_
  refine gx_callWv C hD hF_3 (kw_X4_write l hL hW_3 5 (Nat.le_of_ble_eq_true rfl) 20 rfl _ _) (isWS_in hW_3 13 (Nat.le_of_ble_eq_true rfl)) (isWS_row hW_3 5 (Nat.le_of_ble_eq_true rfl)) rfl (cwV 2 C.2.2.2.2.1 gX3_addClay_X4_write rfl rfl rfl kdV_X4_write ⟨Nat.le_of_ble_eq_true rfl, Nat.le_of_ble_eq_true rfl⟩) rfl rfl (Nat.le_of_ble_eq_true rfl) ⟨Nat.le_of_ble_eq_true rfl, Nat.le_of_ble_eq_true rfl⟩ dX3_addClay_43 (fun f_4 hW_4 hF_4 => ?_)
  refine gx_aload_n (q := 1) C dX3_addClay_46 rfl ?_
  refine gx_get C (i := 5) (isWS_in hW_4 2 (Nat.le_of_ble_eq_true rfl)) (isWS_2 hW_4) rfl in_X3_addClay_3 (by decide) fl_X3_addClay_32 rfl dX3_addClay_47 ?_
  refine gx_iload (q := 0) C dX3_addClay_50 rfl ?_
  refine gx_iconst (v := 0) C dX3_addClay_52 (by decide) ?_
  refine gx_callWv C hD hF_4 (kw_X4_write l hL hW_4 7 (Nat.le_of_ble_eq_true rfl) 20 rfl _ _) (isWS_in hW_4 17 (Nat.le_of_ble_eq_true rfl)) (isWS_row hW_4 7 (Nat.le_of_ble_eq_true rfl)) rfl (cwV 2 C.2.2.2.2.1 gX3_addClay_X4_write rfl rfl rfl kdV_X4_write ⟨Nat.le_of_ble_eq_true rfl, Nat.le_of_ble_eq_true rfl⟩) rfl rfl (Nat.le_of_ble_eq_true rfl) ⟨Nat.le_of_ble_eq_true rfl, Nat.le_of_ble_eq_true rfl⟩ dX3_addClay_53 (fun f_5 hW_5 hF_5 => ?_)
  refine gx_aload_n (q := 1) C dX3_addClay_56 rfl ?_
  refine gx_get C (i := 7) (isWS_in hW_5 2 (Nat.le_of_ble_eq_true rfl)) (isWS_2 hW_5) rfl in_X3_addClay_3 (by decide) fl_X3_addClay_38 rfl dX3_addClay_57 ?_
  refine gx_iload (q := 0) C dX3_addClay_60 rfl ?_
  refine gx_iconst (v := 0) C dX3_addClay_62 (by decide) ?_
  refine gx_callWv C hD hF_5 (kw_X4_write l hL hW_5 9 (Nat.le_of_ble_eq_true rfl) 20 rfl _ _) (isWS_in hW_5 21 (Nat.le_of_ble_eq_true rfl)) (isWS_row hW_5 9 (Nat.le_of_ble_eq_true rfl)) rfl (cwV 2 C.2.2.2.2.1 gX3_addClay_X4_write rfl rfl rfl kdV_X4_write ⟨Nat.le_of_ble_eq_true rfl, Nat.le_of_ble_eq_true rfl⟩) rfl rfl (Nat.le_of_ble_eq_true rfl) ⟨Nat.le_of_ble_eq_true rfl, Nat.le_of_ble_eq_true rfl⟩ dX3_addClay_63 (fun f_6 hW_6 hF_6 => ?_)
  refine gx_aload_n (q := 1) C dX3_addClay_66 rfl ?_
  refine gx_iload (q := 0) C dX3_addClay_67 rfl ?_
  refine gx_callWv C hD hF_6 (k_X3_putOnRack l hL hW_6 hN _) (isWS_in hW_6 2 (Nat.le_of_ble_eq_true rfl)) (isWS_2 hW_6) rfl (cwV 1 C.2.2.2.2.1 gX3_addClay_X3_putOnRack rfl rfl rfl kdV_X3_putOnRack ⟨Nat.le_of_ble_eq_true rfl, Nat.le_of_ble_eq_true rfl⟩) rfl rfl (Nat.le_of_ble_eq_true rfl) ⟨Nat.le_of_ble_eq_true rfl, Nat.le_of_ble_eq_true rfl⟩ dX3_addClay_69 (fun f_7 hW_7 hF_7 => ?_)
  refine gx_aload_n (q := 1) C dX3_addClay_72 rfl ?_
  refine gx_dup C rfl dX3_addClay_73 ?_
  refine gx_get C (i := 8) (isWS_in hW_7 2 (Nat.le_of_ble_eq_true rfl)) (isWS_2 hW_7) rfl in_X3_addClay_3 (by decide) fl_X3_addClay_45 rfl dX3_addClay_74 ?_
  refine gx_iconst (v := 1) C dX3_addClay_77 (by decide) ?_
  refine gx_iadd C dX3_addClay_78 ?_
  refine gx_put C hD (i := 8) (ty := .int) tyX3_ok nmX3 (isWS_in hW_7 2 (Nat.le_of_ble_eq_true rfl)) (isWS_2 hW_7) rfl in_X3_addClay_3 (by decide) fl_X3_addClay_45 rfl (by decide +kernel) rfl rfl (Nat.le_of_ble_eq_true rfl) rfl dX3_addClay_79 ?_
  refine gx_w2 hW_7 hF_7 (fun f_8 hW_8 hF_8 => ?_)
  refine gx_iload (q := 0) C dX3_addClay_82 rfl ?_
  exact gx_iretW C hr hW_8 hF_8 dX3_addClay_84 (rfl).symm (rfl).symm
theorem kdN_X5_throwClay : yX5_throwClay.cls ≠ "java/lang/invoke/MethodHandle" ∧ yX5_throwClay.cls ≠ "java/lang/invoke/VarHandle" ∧ (parseMethodDescriptor yX5_throwClay.desc).map (fun d => d.parameters.length) = some 2 := by decide +kernel
theorem kdV_X5_throwClay : yX5_throwClay.cls = RX5 ∧ yX5_throwClay.cls ≠ "java/lang/invoke/MethodHandle" ∧ yX5_throwClay.cls ≠ "java/lang/invoke/VarHandle" ∧ (parseMethodDescriptor yX5_throwClay.desc).map (fun d => d.parameters.length) = some 2 := ⟨rfl, kdN_X5_throwClay⟩
def vX5_throwClay (w : WS) (q : Int32) (sz : Int32) : Int32 := (if (vX5_hasPupil w q) = true then (if (isW sz 1 3) = true then (if (cWheel w q 0) = (-6) then (-5) else (if (cThrown w q) = true then (-5) else (if 20 ≤ (w.2 2) then (-4) else (if (cFree w) = 0 then (-4) else (vX3_addClay (wX5_drawFault (cNote w q) ) q sz (vX5_drawFault (cNote w q) )))))) else (-2)) else (-1))
def wX5_throwClay (w : WS) (q : Int32) (sz : Int32) : WS := (if (vX5_hasPupil w q) = true then (if (isW sz 1 3) = true then (if (cWheel w q 0) = (-6) then w else (if (cThrown w q) = true then w else (if 20 ≤ (w.2 2) then w else (if (cFree w) = 0 then w else (wX3_addClay (wX5_drawFault (cNote w q) ) q sz (vX5_drawFault (cNote w q) )))))) else w) else w)
theorem wd_X5_throwClay_ini_RX6 : Cond.initialized RX6 ∈ wsX5_throwClay := by decide +kernel
theorem wd_X5_throwClay_st_X6_isWithin : Cond.static yX6_isWithin ∈ wsX5_throwClay := by decide +kernel
theorem in_X5_throwClay_5 : ∀ w ∈ u_ws RX5 TX5 8, w ∈ wsX5_throwClay := by decide +kernel
theorem fl_X5_throwClay_23 : Cond.fieldLink RX5 23 (TX5 1).1 (TX5 1).2.1 (TX5 1).2.2.1 ∈ wsX5_throwClay := by decide +kernel
theorem fl_X5_throwClay_30 : Cond.fieldLink RX5 30 (TX5 2).1 (TX5 2).2.1 (TX5 2).2.2.1 ∈ wsX5_throwClay := by decide +kernel
theorem in_X5_throwClay_3 : ∀ w ∈ u_ws RX3 TX3 9, w ∈ wsX5_throwClay := by decide +kernel
abbrev rmX5_throwClay : Room := { frames := 4, cells := 0, slots := 0, locals := 91 }
set_option maxHeartbeats 4000000 in
set_option maxRecDepth 100000 in
theorem k_X5_throwClay (l : Launch) {k : gK} {L : List Nat} {f : Nat → va_E} (hL : L.Nodup) {a : Nat → Nat} {w : WS} (hW : isWS k L f a w) (hN : wOK w) (q : Int32) (sz : Int32) : kM l k L f yX5_throwClay wsX5_throwClay rmX5_throwClay [.ref (a 0), .int q, .int sz] (wP k L a f (some (.int (vX5_throwClay w q sz))) (wX5_throwClay w q sz)) := by
  refine kM_of (cc := cX5_throwClay) (maxL := 3) (ret := (some .int)) (by decide) rfl (Nat.le_of_ble_eq_true rfl) ?_
  intro p e s m args below meth c C hr
  have hD : gD (fun q => q ∈ L) L := ⟨hL, fun _ h => h⟩
  refine gx_lv [(0, _), (1, _), (2, _)] [0, 1, 2] rfl ?_
  refine gx_aload_n (q := 0) C dX5_throwClay_0 rfl ?_
  refine gx_iload_n (q := 1) C dX5_throwClay_1 rfl ?_
  refine gx_callR C (k_X5_hasPupil l hW _) (isWS_in hW 0 (Nat.le_of_ble_eq_true rfl)) (isWS_0 hW) rfl (cwV 1 C.2.2.2.2.1 gX5_throwClay_X5_hasPupil rfl rfl rfl kdV_X5_hasPupil ⟨Nat.le_of_ble_eq_true rfl, Nat.le_of_ble_eq_true rfl⟩) rfl rfl (Nat.le_of_ble_eq_true rfl) ⟨Nat.le_of_ble_eq_true rfl, Nat.le_of_ble_eq_true rfl⟩ dX5_throwClay_2 ?_
  refine gx_if_ne (tgt := 10) C dX5_throwClay_5 (by decide) (fun c_5 => ?_) (fun c_5 => ?_)
  · skip
    have h_5 := bI1.mp c_5
    refine gx_iload_n (q := 2) C dX5_throwClay_10 rfl ?_
    refine gx_iconst (v := 1) C dX5_throwClay_11 (by decide) ?_
    refine gx_iconst (v := 3) C dX5_throwClay_12 (by decide) ?_
    refine gx_callRN C (k_X6_isWithin l (k := k) (L := L) _ _ _) ⟨va_cnB 3 C.2.2.2.2.1 gX5_throwClay_X6_isWithin_n67 rfl rfl rfl (C.2.2.2.2.2.1.2.2 (RX5, 67, yX6_isWithin) (by decide +kernel)) (C.2.2.2.2.1 _ wd_X5_throwClay_ini_RX6) kdN_X6_isWithin ⟨Nat.le_of_ble_eq_true rfl, Nat.le_of_ble_eq_true rfl⟩, C.2.2.2.2.1 _ wd_X5_throwClay_st_X6_isWithin, trivial⟩ rfl rfl (Nat.le_of_ble_eq_true rfl) ⟨Nat.le_of_ble_eq_true rfl, Nat.le_of_ble_eq_true rfl⟩ dX5_throwClay_13 ?_
    refine gx_if_ne (tgt := 22) C dX5_throwClay_16 (by decide) (fun c_16 => ?_) (fun c_16 => ?_)
    · skip
      have h_16 := bI1.mp c_16
      refine gx_aload_n (q := 0) C dX5_throwClay_22 rfl ?_
      refine gx_get C (i := 1) (isWS_in hW 0 (Nat.le_of_ble_eq_true rfl)) (isWS_0 hW) rfl in_X5_throwClay_5 (by decide) fl_X5_throwClay_23 rfl dX5_throwClay_23 ?_
      refine gx_iload_n (q := 1) C dX5_throwClay_26 rfl ?_
      refine gx_iconst (v := 0) C dX5_throwClay_27 (by decide) ?_
      refine gx_callR C (k_X0_wheelOf l hW _ _) (isWS_in hW 1 (Nat.le_of_ble_eq_true rfl)) (isWS_1 hW) rfl (cwV 2 C.2.2.2.2.1 gX5_throwClay_X0_wheelOf rfl rfl rfl kdV_X0_wheelOf ⟨Nat.le_of_ble_eq_true rfl, Nat.le_of_ble_eq_true rfl⟩) rfl rfl (Nat.le_of_ble_eq_true rfl) ⟨Nat.le_of_ble_eq_true rfl, Nat.le_of_ble_eq_true rfl⟩ dX5_throwClay_28 ?_
      refine gx_bipush (v := (-6)) C dX5_throwClay_31 (by decide) ?_
      refine gx_icmp_eq (tgt := 47) C dX5_throwClay_33 (by decide) (fun c_33 => ?_) (fun c_33 => ?_)
      · skip
        refine gx_bipush (v := (-5)) C dX5_throwClay_47 (by decide) ?_
        exact gx_iretW C hr hW (gFr_rf (f := f)) dX5_throwClay_49 ((if_pos h_5).trans ((if_pos h_16).trans ((if_pos c_33).trans (rfl)))).symm ((if_pos h_5).trans ((if_pos h_16).trans ((if_pos c_33).trans (rfl)))).symm
      · skip
        refine gx_aload_n (q := 0) C dX5_throwClay_36 rfl ?_
        refine gx_get C (i := 1) (isWS_in hW 0 (Nat.le_of_ble_eq_true rfl)) (isWS_0 hW) rfl in_X5_throwClay_5 (by decide) fl_X5_throwClay_23 rfl dX5_throwClay_37 ?_
        refine gx_iload_n (q := 1) C dX5_throwClay_40 rfl ?_
        refine gx_callR C (k_X0_hasThrownTonight l hW _) (isWS_in hW 1 (Nat.le_of_ble_eq_true rfl)) (isWS_1 hW) rfl (cwV 1 C.2.2.2.2.1 gX5_throwClay_X0_hasThrownTonight rfl rfl rfl kdV_X0_hasThrownTonight ⟨Nat.le_of_ble_eq_true rfl, Nat.le_of_ble_eq_true rfl⟩) rfl rfl (Nat.le_of_ble_eq_true rfl) ⟨Nat.le_of_ble_eq_true rfl, Nat.le_of_ble_eq_true rfl⟩ dX5_throwClay_41 ?_
        refine gx_if_eq (tgt := 50) C dX5_throwClay_44 (by decide) (fun c_44 => ?_) (fun c_44 => ?_)
        · skip
          have h_44 := bI0.mp c_44
          refine gx_aload_n (q := 0) C dX5_throwClay_50 rfl ?_
          refine gx_get C (i := 2) (isWS_in hW 0 (Nat.le_of_ble_eq_true rfl)) (isWS_0 hW) rfl in_X5_throwClay_5 (by decide) fl_X5_throwClay_30 rfl dX5_throwClay_51 ?_
          refine gx_getN C (i := 8) (isWS_in hW 2 (Nat.le_of_ble_eq_true rfl)) (isWS_2 hW) rfl in_X5_throwClay_3 (by decide) (by decide +kernel) rfl dX5_throwClay_54 ?_
          refine gx_bipush (v := 20) C dX5_throwClay_57 (by decide) ?_
          refine gx_icmp_ge (tgt := 72) C dX5_throwClay_59 (by decide) (fun c_59 => ?_) (fun c_59 => ?_)
          · skip
            refine gx_bipush (v := (-4)) C dX5_throwClay_72 (by decide) ?_
            exact gx_iretW C hr hW (gFr_rf (f := f)) dX5_throwClay_74 ((if_pos h_5).trans ((if_pos h_16).trans ((if_neg c_33).trans ((if_neg (bF h_44)).trans ((if_pos c_59).trans (rfl)))))).symm ((if_pos h_5).trans ((if_pos h_16).trans ((if_neg c_33).trans ((if_neg (bF h_44)).trans ((if_pos c_59).trans (rfl)))))).symm
          · skip
            refine gx_aload_n (q := 0) C dX5_throwClay_62 rfl ?_
            refine gx_get C (i := 2) (isWS_in hW 0 (Nat.le_of_ble_eq_true rfl)) (isWS_0 hW) rfl in_X5_throwClay_5 (by decide) fl_X5_throwClay_30 rfl dX5_throwClay_63 ?_
            refine gx_callR C (k_X3_freePlaces l hW hN ) (isWS_in hW 2 (Nat.le_of_ble_eq_true rfl)) (isWS_2 hW) rfl (cwV 0 C.2.2.2.2.1 gX5_throwClay_X3_freePlaces rfl rfl rfl kdV_X3_freePlaces ⟨Nat.le_of_ble_eq_true rfl, Nat.le_of_ble_eq_true rfl⟩) rfl rfl (Nat.le_of_ble_eq_true rfl) ⟨Nat.le_of_ble_eq_true rfl, Nat.le_of_ble_eq_true rfl⟩ dX5_throwClay_66 ?_
            refine gx_if_ne (tgt := 75) C dX5_throwClay_69 (by decide) (fun c_69 => ?_) (fun c_69 => ?_)
            · skip
              refine gx_aload_n (q := 0) C dX5_throwClay_75 rfl ?_
              refine gx_get C (i := 1) (isWS_in hW 0 (Nat.le_of_ble_eq_true rfl)) (isWS_0 hW) rfl in_X5_throwClay_5 (by decide) fl_X5_throwClay_23 rfl dX5_throwClay_76 ?_
              refine gx_iload_n (q := 1) C dX5_throwClay_79 rfl ?_
              refine gx_callWv C hD (gFr_rf (f := f)) (k_X0_noteThrower l hL hW _) (isWS_in hW 1 (Nat.le_of_ble_eq_true rfl)) (isWS_1 hW) rfl (cwV 1 C.2.2.2.2.1 gX5_throwClay_X0_noteThrower rfl rfl rfl kdV_X0_noteThrower ⟨Nat.le_of_ble_eq_true rfl, Nat.le_of_ble_eq_true rfl⟩) rfl rfl (Nat.le_of_ble_eq_true rfl) ⟨Nat.le_of_ble_eq_true rfl, Nat.le_of_ble_eq_true rfl⟩ dX5_throwClay_80 (fun f_1 hW_1 hF_1 => ?_)
              refine gx_aload_n (q := 0) C dX5_throwClay_83 rfl ?_
              refine gx_get C (i := 2) (isWS_in hW_1 0 (Nat.le_of_ble_eq_true rfl)) (isWS_0 hW_1) rfl in_X5_throwClay_5 (by decide) fl_X5_throwClay_30 rfl dX5_throwClay_84 ?_
              refine gx_iload_n (q := 1) C dX5_throwClay_87 rfl ?_
              refine gx_iload_n (q := 2) C dX5_throwClay_88 rfl ?_
              refine gx_aload_n (q := 0) C dX5_throwClay_89 rfl ?_
              refine gx_callWi C hD hF_1 (k_X5_drawFault l hL hW_1 ) (isWS_in hW_1 0 (Nat.le_of_ble_eq_true rfl)) (isWS_0 hW_1) rfl (cwV 0 C.2.2.2.2.1 gX5_throwClay_X5_drawFault rfl rfl rfl kdV_X5_drawFault ⟨Nat.le_of_ble_eq_true rfl, Nat.le_of_ble_eq_true rfl⟩) rfl rfl (Nat.le_of_ble_eq_true rfl) ⟨Nat.le_of_ble_eq_true rfl, Nat.le_of_ble_eq_true rfl⟩ dX5_throwClay_90 (fun f_2 hW_2 hF_2 => ?_)
              refine gx_callWi C hD hF_2 (k_X3_addClay l hL hW_2 hN _ _ _) (isWS_in hW_2 2 (Nat.le_of_ble_eq_true rfl)) (isWS_2 hW_2) rfl (cwV 3 C.2.2.2.2.1 gX5_throwClay_X3_addClay rfl rfl rfl kdV_X3_addClay ⟨Nat.le_of_ble_eq_true rfl, Nat.le_of_ble_eq_true rfl⟩) rfl rfl (Nat.le_of_ble_eq_true rfl) ⟨Nat.le_of_ble_eq_true rfl, Nat.le_of_ble_eq_true rfl⟩ dX5_throwClay_93 (fun f_3 hW_3 hF_3 => ?_)
              exact gx_iretW C hr hW_3 hF_3 dX5_throwClay_96 ((if_pos h_5).trans ((if_pos h_16).trans ((if_neg c_33).trans ((if_neg (bF h_44)).trans ((if_neg c_59).trans ((if_neg c_69).trans (rfl))))))).symm ((if_pos h_5).trans ((if_pos h_16).trans ((if_neg c_33).trans ((if_neg (bF h_44)).trans ((if_neg c_59).trans ((if_neg c_69).trans (rfl))))))).symm
            · skip
              refine gx_bipush (v := (-4)) C dX5_throwClay_72 (by decide) ?_
              exact gx_iretW C hr hW (gFr_rf (f := f)) dX5_throwClay_74 ((if_pos h_5).trans ((if_pos h_16).trans ((if_neg c_33).trans ((if_neg (bF h_44)).trans ((if_neg c_59).trans ((if_pos c_69).trans (rfl))))))).symm ((if_pos h_5).trans ((if_pos h_16).trans ((if_neg c_33).trans ((if_neg (bF h_44)).trans ((if_neg c_59).trans ((if_pos c_69).trans (rfl))))))).symm
        · skip
          have h_44 := bI1.mp c_44
          refine gx_bipush (v := (-5)) C dX5_throwClay_47 (by decide) ?_
          exact gx_iretW C hr hW (gFr_rf (f := f)) dX5_throwClay_49 ((if_pos h_5).trans ((if_pos h_16).trans ((if_neg c_33).trans ((if_pos h_44).trans (rfl))))).symm ((if_pos h_5).trans ((if_pos h_16).trans ((if_neg c_33).trans ((if_pos h_44).trans (rfl))))).symm
    · skip
      have h_16 := bI0.mp c_16
      refine gx_bipush (v := (-2)) C dX5_throwClay_19 (by decide) ?_
      exact gx_iretW C hr hW (gFr_rf (f := f)) dX5_throwClay_21 ((if_pos h_5).trans ((if_neg (bF h_16)).trans (rfl))).symm ((if_pos h_5).trans ((if_neg (bF h_16)).trans (rfl))).symm
  · skip
    have h_5 := bI0.mp c_5
    refine gx_iconst (v := (-1)) C dX5_throwClay_8 (by decide) ?_
    exact gx_iretW C hr hW (gFr_rf (f := f)) dX5_throwClay_9 ((if_neg (bF h_5)).trans (rfl)).symm ((if_neg (bF h_5)).trans (rfl)).symm
theorem kdN_X5_glazePot : yX5_glazePot.cls ≠ "java/lang/invoke/MethodHandle" ∧ yX5_glazePot.cls ≠ "java/lang/invoke/VarHandle" ∧ (parseMethodDescriptor yX5_glazePot.desc).map (fun d => d.parameters.length) = some 2 := by decide +kernel
theorem kdV_X5_glazePot : yX5_glazePot.cls = RX5 ∧ yX5_glazePot.cls ≠ "java/lang/invoke/MethodHandle" ∧ yX5_glazePot.cls ≠ "java/lang/invoke/VarHandle" ∧ (parseMethodDescriptor yX5_glazePot.desc).map (fun d => d.parameters.length) = some 2 := ⟨rfl, kdN_X5_glazePot⟩
def vX5_glazePot (w : WS) (q : Int32) (gl : Int32) : Int32 := (if (cHas w q) = true then (if (isW gl 0 3) = true then (if (cKind w q 1) = true then (if (cRack w q) = true then (if (rAt 20 (w.1 3) q) ≤ (rAt 4 (w.1 10) gl) then (rAt 4 ((wRow (wRow (wRow w 10 (rPut 4 (w.1 10) gl (rAt 4 (w.1 10) gl + (-(rAt 20 (w.1 3) q))))) 5 (rPut 20 ((wRow w 10 (rPut 4 (w.1 10) gl (rAt 4 (w.1 10) gl + (-(rAt 20 (w.1 3) q))))).1 5) q 2)) 8 (rPut 20 ((wRow (wRow w 10 (rPut 4 (w.1 10) gl (rAt 4 (w.1 10) gl + (-(rAt 20 (w.1 3) q))))) 5 (rPut 20 ((wRow w 10 (rPut 4 (w.1 10) gl (rAt 4 (w.1 10) gl + (-(rAt 20 (w.1 3) q))))).1 5) q 2)).1 8) q gl)).1 10) gl) else (-5)) else (-5)) else (-5)) else (-1)) else (-1))
def wX5_glazePot (w : WS) (q : Int32) (gl : Int32) : WS := (if (cHas w q) = true then (if (isW gl 0 3) = true then (if (cKind w q 1) = true then (if (cRack w q) = true then (if (rAt 20 (w.1 3) q) ≤ (rAt 4 (w.1 10) gl) then (wRow (wRow (wRow w 10 (rPut 4 (w.1 10) gl (rAt 4 (w.1 10) gl + (-(rAt 20 (w.1 3) q))))) 5 (rPut 20 ((wRow w 10 (rPut 4 (w.1 10) gl (rAt 4 (w.1 10) gl + (-(rAt 20 (w.1 3) q))))).1 5) q 2)) 8 (rPut 20 ((wRow (wRow w 10 (rPut 4 (w.1 10) gl (rAt 4 (w.1 10) gl + (-(rAt 20 (w.1 3) q))))) 5 (rPut 20 ((wRow w 10 (rPut 4 (w.1 10) gl (rAt 4 (w.1 10) gl + (-(rAt 20 (w.1 3) q))))).1 5) q 2)).1 8) q gl)) else w) else w) else w) else w) else w)
theorem in_X5_glazePot_5 : ∀ w ∈ u_ws RX5 TX5 8, w ∈ wsX5_glazePot := by decide +kernel
theorem fl_X5_glazePot_30 : Cond.fieldLink RX5 30 (TX5 2).1 (TX5 2).2.1 (TX5 2).2.2.1 ∈ wsX5_glazePot := by decide +kernel
theorem wd_X5_glazePot_ini_RX6 : Cond.initialized RX6 ∈ wsX5_glazePot := by decide +kernel
theorem wd_X5_glazePot_st_X6_isGlaze : Cond.static yX6_isGlaze ∈ wsX5_glazePot := by decide +kernel
theorem in_X5_glazePot_3 : ∀ w ∈ u_ws RX3 TX3 9, w ∈ wsX5_glazePot := by decide +kernel
theorem fl_X5_glazePot_34 : Cond.fieldLink RX5 34 (TX5 3).1 (TX5 3).2.1 (TX5 3).2.2.1 ∈ wsX5_glazePot := by decide +kernel
abbrev rmX5_glazePot : Room := { frames := 2, cells := 0, slots := 0, locals := 44 }
set_option maxHeartbeats 4000000 in
set_option maxRecDepth 100000 in
theorem k_X5_glazePot (l : Launch) {k : gK} {L : List Nat} {f : Nat → va_E} (hL : L.Nodup) {a : Nat → Nat} {w : WS} (hW : isWS k L f a w) (q : Int32) (gl : Int32) : kM l k L f yX5_glazePot wsX5_glazePot rmX5_glazePot [.ref (a 0), .int q, .int gl] (wP k L a f (some (.int (vX5_glazePot w q gl))) (wX5_glazePot w q gl)) := by
  refine kM_of (cc := cX5_glazePot) (maxL := 4) (ret := (some .int)) (by decide) rfl (Nat.le_of_ble_eq_true rfl) ?_
  intro p e s m args below meth c C hr
  have hD : gD (fun q => q ∈ L) L := ⟨hL, fun _ h => h⟩
  refine gx_lv [(0, _), (1, _), (2, _)] [0, 1, 2] rfl ?_
  refine gx_aload_n (q := 0) C dX5_glazePot_0 rfl ?_
  refine gx_get C (i := 2) (isWS_in hW 0 (Nat.le_of_ble_eq_true rfl)) (isWS_0 hW) rfl in_X5_glazePot_5 (by decide) fl_X5_glazePot_30 rfl dX5_glazePot_1 ?_
  refine gx_iload_n (q := 1) C dX5_glazePot_4 rfl ?_
  refine gx_callR C (k_X3_has l hW _) (isWS_in hW 2 (Nat.le_of_ble_eq_true rfl)) (isWS_2 hW) rfl (cwV 1 C.2.2.2.2.1 gX5_glazePot_X3_has rfl rfl rfl kdV_X3_has ⟨Nat.le_of_ble_eq_true rfl, Nat.le_of_ble_eq_true rfl⟩) rfl rfl (Nat.le_of_ble_eq_true rfl) ⟨Nat.le_of_ble_eq_true rfl, Nat.le_of_ble_eq_true rfl⟩ dX5_glazePot_5 ?_
  refine gx_if_eq (tgt := 18) C dX5_glazePot_8 (by decide) (fun c_8 => ?_) (fun c_8 => ?_)
  · skip
    have h_8 := bI0.mp c_8
    refine gx_iconst (v := (-1)) C dX5_glazePot_18 (by decide) ?_
    exact gx_iretW C hr hW (gFr_rf (f := f)) dX5_glazePot_19 ((if_neg (bF h_8)).trans (rfl)).symm ((if_neg (bF h_8)).trans (rfl)).symm
  · skip
    have h_8 := bI1.mp c_8
    refine gx_iload_n (q := 2) C dX5_glazePot_11 rfl ?_
    refine gx_callRN C (k_X6_isGlaze l (k := k) (L := L) _) ⟨va_cnB 1 C.2.2.2.2.1 gX5_glazePot_X6_isGlaze_n136 rfl rfl rfl (C.2.2.2.2.2.1.2.2 (RX5, 136, yX6_isGlaze) (by decide +kernel)) (C.2.2.2.2.1 _ wd_X5_glazePot_ini_RX6) kdN_X6_isGlaze ⟨Nat.le_of_ble_eq_true rfl, Nat.le_of_ble_eq_true rfl⟩, C.2.2.2.2.1 _ wd_X5_glazePot_st_X6_isGlaze, trivial⟩ rfl rfl (Nat.le_of_ble_eq_true rfl) ⟨Nat.le_of_ble_eq_true rfl, Nat.le_of_ble_eq_true rfl⟩ dX5_glazePot_12 ?_
    refine gx_if_ne (tgt := 20) C dX5_glazePot_15 (by decide) (fun c_15 => ?_) (fun c_15 => ?_)
    · skip
      have h_15 := bI1.mp c_15
      refine gx_aload_n (q := 0) C dX5_glazePot_20 rfl ?_
      refine gx_get C (i := 2) (isWS_in hW 0 (Nat.le_of_ble_eq_true rfl)) (isWS_0 hW) rfl in_X5_glazePot_5 (by decide) fl_X5_glazePot_30 rfl dX5_glazePot_21 ?_
      refine gx_getN C (i := 1) (isWS_in hW 2 (Nat.le_of_ble_eq_true rfl)) (isWS_2 hW) rfl in_X5_glazePot_3 (by decide) (by decide +kernel) rfl dX5_glazePot_24 ?_
      refine gx_iload_n (q := 1) C dX5_glazePot_27 rfl ?_
      refine gx_callR C (kw_X4_at l hW 3 (Nat.le_of_ble_eq_true rfl) 20 rfl _) (isWS_in hW 9 (Nat.le_of_ble_eq_true rfl)) (isWS_row hW 3 (Nat.le_of_ble_eq_true rfl)) rfl (cwV 1 C.2.2.2.2.1 gX5_glazePot_X4_at rfl rfl rfl kdV_X4_at ⟨Nat.le_of_ble_eq_true rfl, Nat.le_of_ble_eq_true rfl⟩) rfl rfl (Nat.le_of_ble_eq_true rfl) ⟨Nat.le_of_ble_eq_true rfl, Nat.le_of_ble_eq_true rfl⟩ dX5_glazePot_28 ?_
      refine gx_istore_n C (i := 3) [(3, _), (0, _), (1, _), (2, _)] dX5_glazePot_31 rfl (by decide) rfl ?_
      refine gx_aload_n (q := 1) C dX5_glazePot_32 rfl ?_
      refine gx_get C (i := 2) (isWS_in hW 0 (Nat.le_of_ble_eq_true rfl)) (isWS_0 hW) rfl in_X5_glazePot_5 (by decide) fl_X5_glazePot_30 rfl dX5_glazePot_33 ?_
      refine gx_iload_n (q := 2) C dX5_glazePot_36 rfl ?_
      refine gx_iconst (v := 1) C dX5_glazePot_37 (by decide) ?_
      refine gx_callR C (k_X3_isKind l hW _ _) (isWS_in hW 2 (Nat.le_of_ble_eq_true rfl)) (isWS_2 hW) rfl (cwV 2 C.2.2.2.2.1 gX5_glazePot_X3_isKind rfl rfl rfl kdV_X3_isKind ⟨Nat.le_of_ble_eq_true rfl, Nat.le_of_ble_eq_true rfl⟩) rfl rfl (Nat.le_of_ble_eq_true rfl) ⟨Nat.le_of_ble_eq_true rfl, Nat.le_of_ble_eq_true rfl⟩ dX5_glazePot_38 ?_
      refine gx_if_eq (tgt := 67) C dX5_glazePot_41 (by decide) (fun c_41 => ?_) (fun c_41 => ?_)
      · skip
        have h_41 := bI0.mp c_41
        refine gx_bipush (v := (-5)) C dX5_glazePot_67 (by decide) ?_
        exact gx_iretW C hr hW (gFr_rf (f := f)) dX5_glazePot_69 ((if_pos h_8).trans ((if_pos h_15).trans ((if_neg (bF h_41)).trans (rfl)))).symm ((if_pos h_8).trans ((if_pos h_15).trans ((if_neg (bF h_41)).trans (rfl)))).symm
      · skip
        have h_41 := bI1.mp c_41
        refine gx_aload_n (q := 1) C dX5_glazePot_44 rfl ?_
        refine gx_get C (i := 2) (isWS_in hW 0 (Nat.le_of_ble_eq_true rfl)) (isWS_0 hW) rfl in_X5_glazePot_5 (by decide) fl_X5_glazePot_30 rfl dX5_glazePot_45 ?_
        refine gx_iload_n (q := 2) C dX5_glazePot_48 rfl ?_
        refine gx_callR C (k_X3_isOnRack l hW _) (isWS_in hW 2 (Nat.le_of_ble_eq_true rfl)) (isWS_2 hW) rfl (cwV 1 C.2.2.2.2.1 gX5_glazePot_X3_isOnRack rfl rfl rfl kdV_X3_isOnRack ⟨Nat.le_of_ble_eq_true rfl, Nat.le_of_ble_eq_true rfl⟩) rfl rfl (Nat.le_of_ble_eq_true rfl) ⟨Nat.le_of_ble_eq_true rfl, Nat.le_of_ble_eq_true rfl⟩ dX5_glazePot_49 ?_
        refine gx_if_eq (tgt := 67) C dX5_glazePot_52 (by decide) (fun c_52 => ?_) (fun c_52 => ?_)
        · skip
          have h_52 := bI0.mp c_52
          refine gx_bipush (v := (-5)) C dX5_glazePot_67 (by decide) ?_
          exact gx_iretW C hr hW (gFr_rf (f := f)) dX5_glazePot_69 ((if_pos h_8).trans ((if_pos h_15).trans ((if_pos h_41).trans ((if_neg (bF h_52)).trans (rfl))))).symm ((if_pos h_8).trans ((if_pos h_15).trans ((if_pos h_41).trans ((if_neg (bF h_52)).trans (rfl))))).symm
        · skip
          have h_52 := bI1.mp c_52
          refine gx_aload_n (q := 1) C dX5_glazePot_55 rfl ?_
          refine gx_get C (i := 3) (isWS_in hW 0 (Nat.le_of_ble_eq_true rfl)) (isWS_0 hW) rfl in_X5_glazePot_5 (by decide) fl_X5_glazePot_34 rfl dX5_glazePot_56 ?_
          refine gx_iload_n (q := 3) C dX5_glazePot_59 rfl ?_
          refine gx_callR C (kw_X4_at l hW 10 (Nat.le_of_ble_eq_true rfl) 4 rfl _) (isWS_in hW 23 (Nat.le_of_ble_eq_true rfl)) (isWS_row hW 10 (Nat.le_of_ble_eq_true rfl)) rfl (cwV 1 C.2.2.2.2.1 gX5_glazePot_X4_at rfl rfl rfl kdV_X4_at ⟨Nat.le_of_ble_eq_true rfl, Nat.le_of_ble_eq_true rfl⟩) rfl rfl (Nat.le_of_ble_eq_true rfl) ⟨Nat.le_of_ble_eq_true rfl, Nat.le_of_ble_eq_true rfl⟩ dX5_glazePot_60 ?_
          refine gx_iload_n (q := 0) C dX5_glazePot_63 rfl ?_
          refine gx_icmp_ge (tgt := 70) C dX5_glazePot_64 (by decide) (fun c_64 => ?_) (fun c_64 => ?_)
          · skip
            refine gx_aload_n (q := 1) C dX5_glazePot_70 rfl ?_
            refine gx_get C (i := 3) (isWS_in hW 0 (Nat.le_of_ble_eq_true rfl)) (isWS_0 hW) rfl in_X5_glazePot_5 (by decide) fl_X5_glazePot_34 rfl dX5_glazePot_71 ?_
            refine gx_iload_n (q := 3) C dX5_glazePot_74 rfl ?_
            refine gx_iload_n (q := 0) C dX5_glazePot_75 rfl ?_
            refine gx_ineg C dX5_glazePot_76 ?_
            refine gx_callWv C hD (gFr_rf (f := f)) (kw_X4_add l hL hW 10 (Nat.le_of_ble_eq_true rfl) 4 rfl _ _) (isWS_in hW 23 (Nat.le_of_ble_eq_true rfl)) (isWS_row hW 10 (Nat.le_of_ble_eq_true rfl)) rfl (cwV 2 C.2.2.2.2.1 gX5_glazePot_X4_add rfl rfl rfl kdV_X4_add ⟨Nat.le_of_ble_eq_true rfl, Nat.le_of_ble_eq_true rfl⟩) rfl rfl (Nat.le_of_ble_eq_true rfl) ⟨Nat.le_of_ble_eq_true rfl, Nat.le_of_ble_eq_true rfl⟩ dX5_glazePot_77 (fun f_1 hW_1 hF_1 => ?_)
            refine gx_aload_n (q := 1) C dX5_glazePot_80 rfl ?_
            refine gx_get C (i := 2) (isWS_in hW_1 0 (Nat.le_of_ble_eq_true rfl)) (isWS_0 hW_1) rfl in_X5_glazePot_5 (by decide) fl_X5_glazePot_30 rfl dX5_glazePot_81 ?_
            refine gx_getN C (i := 3) (isWS_in hW_1 2 (Nat.le_of_ble_eq_true rfl)) (isWS_2 hW_1) rfl in_X5_glazePot_3 (by decide) (by decide +kernel) rfl dX5_glazePot_84 ?_
            refine gx_iload_n (q := 2) C dX5_glazePot_87 rfl ?_
            refine gx_iconst (v := 2) C dX5_glazePot_88 (by decide) ?_
            refine gx_callWv C hD hF_1 (kw_X4_write l hL hW_1 5 (Nat.le_of_ble_eq_true rfl) 20 rfl _ _) (isWS_in hW_1 13 (Nat.le_of_ble_eq_true rfl)) (isWS_row hW_1 5 (Nat.le_of_ble_eq_true rfl)) rfl (cwV 2 C.2.2.2.2.1 gX5_glazePot_X4_write rfl rfl rfl kdV_X4_write ⟨Nat.le_of_ble_eq_true rfl, Nat.le_of_ble_eq_true rfl⟩) rfl rfl (Nat.le_of_ble_eq_true rfl) ⟨Nat.le_of_ble_eq_true rfl, Nat.le_of_ble_eq_true rfl⟩ dX5_glazePot_89 (fun f_2 hW_2 hF_2 => ?_)
            refine gx_aload_n (q := 1) C dX5_glazePot_92 rfl ?_
            refine gx_get C (i := 2) (isWS_in hW_2 0 (Nat.le_of_ble_eq_true rfl)) (isWS_0 hW_2) rfl in_X5_glazePot_5 (by decide) fl_X5_glazePot_30 rfl dX5_glazePot_93 ?_
            refine gx_getN C (i := 6) (isWS_in hW_2 2 (Nat.le_of_ble_eq_true rfl)) (isWS_2 hW_2) rfl in_X5_glazePot_3 (by decide) (by decide +kernel) rfl dX5_glazePot_96 ?_
            refine gx_iload_n (q := 2) C dX5_glazePot_99 rfl ?_
            refine gx_iload_n (q := 3) C dX5_glazePot_100 rfl ?_
            refine gx_callWv C hD hF_2 (kw_X4_write l hL hW_2 8 (Nat.le_of_ble_eq_true rfl) 20 rfl _ _) (isWS_in hW_2 19 (Nat.le_of_ble_eq_true rfl)) (isWS_row hW_2 8 (Nat.le_of_ble_eq_true rfl)) rfl (cwV 2 C.2.2.2.2.1 gX5_glazePot_X4_write rfl rfl rfl kdV_X4_write ⟨Nat.le_of_ble_eq_true rfl, Nat.le_of_ble_eq_true rfl⟩) rfl rfl (Nat.le_of_ble_eq_true rfl) ⟨Nat.le_of_ble_eq_true rfl, Nat.le_of_ble_eq_true rfl⟩ dX5_glazePot_101 (fun f_3 hW_3 hF_3 => ?_)
            refine gx_aload_n (q := 1) C dX5_glazePot_104 rfl ?_
            refine gx_get C (i := 3) (isWS_in hW_3 0 (Nat.le_of_ble_eq_true rfl)) (isWS_0 hW_3) rfl in_X5_glazePot_5 (by decide) fl_X5_glazePot_34 rfl dX5_glazePot_105 ?_
            refine gx_iload_n (q := 3) C dX5_glazePot_108 rfl ?_
            refine gx_callR C (kw_X4_at l hW_3 10 (Nat.le_of_ble_eq_true rfl) 4 rfl _) (isWS_in hW_3 23 (Nat.le_of_ble_eq_true rfl)) (isWS_row hW_3 10 (Nat.le_of_ble_eq_true rfl)) rfl (cwV 1 C.2.2.2.2.1 gX5_glazePot_X4_at rfl rfl rfl kdV_X4_at ⟨Nat.le_of_ble_eq_true rfl, Nat.le_of_ble_eq_true rfl⟩) rfl rfl (Nat.le_of_ble_eq_true rfl) ⟨Nat.le_of_ble_eq_true rfl, Nat.le_of_ble_eq_true rfl⟩ dX5_glazePot_109 ?_
            exact gx_iretW C hr hW_3 hF_3 dX5_glazePot_112 ((if_pos h_8).trans ((if_pos h_15).trans ((if_pos h_41).trans ((if_pos h_52).trans ((if_pos c_64).trans (rfl)))))).symm ((if_pos h_8).trans ((if_pos h_15).trans ((if_pos h_41).trans ((if_pos h_52).trans ((if_pos c_64).trans (rfl)))))).symm
          · skip
            refine gx_bipush (v := (-5)) C dX5_glazePot_67 (by decide) ?_
            exact gx_iretW C hr hW (gFr_rf (f := f)) dX5_glazePot_69 ((if_pos h_8).trans ((if_pos h_15).trans ((if_pos h_41).trans ((if_pos h_52).trans ((if_neg c_64).trans (rfl)))))).symm ((if_pos h_8).trans ((if_pos h_15).trans ((if_pos h_41).trans ((if_pos h_52).trans ((if_neg c_64).trans (rfl)))))).symm
    · skip
      have h_15 := bI0.mp c_15
      refine gx_iconst (v := (-1)) C dX5_glazePot_18 (by decide) ?_
      exact gx_iretW C hr hW (gFr_rf (f := f)) dX5_glazePot_19 ((if_pos h_8).trans ((if_neg (bF h_15)).trans (rfl))).symm ((if_pos h_8).trans ((if_neg (bF h_15)).trans (rfl))).symm
theorem kdN_X5_fillGlaze : yX5_fillGlaze.cls ≠ "java/lang/invoke/MethodHandle" ∧ yX5_fillGlaze.cls ≠ "java/lang/invoke/VarHandle" ∧ (parseMethodDescriptor yX5_fillGlaze.desc).map (fun d => d.parameters.length) = some 2 := by decide +kernel
theorem kdV_X5_fillGlaze : yX5_fillGlaze.cls = RX5 ∧ yX5_fillGlaze.cls ≠ "java/lang/invoke/MethodHandle" ∧ yX5_fillGlaze.cls ≠ "java/lang/invoke/VarHandle" ∧ (parseMethodDescriptor yX5_fillGlaze.desc).map (fun d => d.parameters.length) = some 2 := ⟨rfl, kdN_X5_fillGlaze⟩
def vX5_fillGlaze (w : WS) (gl : Int32) (pt : Int32) : Int32 := (if (isW gl 0 3) = true then (if (isW pt 1 99) = true then (rAt 4 ((wRow w 10 (rPut 4 (w.1 10) gl (if 99 < ((rAt 4 (w.1 10) gl) + pt) then 99 else ((rAt 4 (w.1 10) gl) + pt)))).1 10) gl) else (-2)) else (-1))
def wX5_fillGlaze (w : WS) (gl : Int32) (pt : Int32) : WS := (if (isW gl 0 3) = true then (if (isW pt 1 99) = true then (wRow w 10 (rPut 4 (w.1 10) gl (if 99 < ((rAt 4 (w.1 10) gl) + pt) then 99 else ((rAt 4 (w.1 10) gl) + pt)))) else w) else w)
theorem wd_X5_fillGlaze_ini_RX6 : Cond.initialized RX6 ∈ wsX5_fillGlaze := by decide +kernel
theorem wd_X5_fillGlaze_st_X6_isGlaze : Cond.static yX6_isGlaze ∈ wsX5_fillGlaze := by decide +kernel
theorem wd_X5_fillGlaze_st_X6_isWithin : Cond.static yX6_isWithin ∈ wsX5_fillGlaze := by decide +kernel
theorem in_X5_fillGlaze_5 : ∀ w ∈ u_ws RX5 TX5 8, w ∈ wsX5_fillGlaze := by decide +kernel
theorem fl_X5_fillGlaze_34 : Cond.fieldLink RX5 34 (TX5 3).1 (TX5 3).2.1 (TX5 3).2.2.1 ∈ wsX5_fillGlaze := by decide +kernel
theorem wd_X5_fillGlaze_ml157 : Cond.methodLink RX5 157 Lib.Math.min.name ∈ wsX5_fillGlaze := by decide +kernel
theorem wd_X5_fillGlaze_ms_min : Cond.static Lib.Math.min.name ∈ wsX5_fillGlaze := by decide +kernel
theorem wd_X5_fillGlaze_mi : Cond.initialized "java/lang/Math" ∈ wsX5_fillGlaze := by decide +kernel
theorem wd_X5_fillGlaze_mc_min : Cond.code Lib.Math.min.name Lib.Math.min.code 2 (some .int) ∈ wsX5_fillGlaze := by decide +kernel
abbrev rmX5_fillGlaze : Room := { frames := 2, cells := 0, slots := 0, locals := 42 }
set_option maxHeartbeats 4000000 in
set_option maxRecDepth 100000 in
theorem k_X5_fillGlaze (l : Launch) {k : gK} {L : List Nat} {f : Nat → va_E} (hL : L.Nodup) {a : Nat → Nat} {w : WS} (hW : isWS k L f a w) (gl : Int32) (pt : Int32) : kM l k L f yX5_fillGlaze wsX5_fillGlaze rmX5_fillGlaze [.ref (a 0), .int gl, .int pt] (wP k L a f (some (.int (vX5_fillGlaze w gl pt))) (wX5_fillGlaze w gl pt)) := by
  refine kM_of (cc := cX5_fillGlaze) (maxL := 3) (ret := (some .int)) (by decide) rfl (Nat.le_of_ble_eq_true rfl) ?_
  intro p e s m args below meth c C hr
  have hD : gD (fun q => q ∈ L) L := ⟨hL, fun _ h => h⟩
  refine gx_lv [(0, _), (1, _), (2, _)] [0, 1, 2] rfl ?_
  refine gx_iload_n (q := 1) C dX5_fillGlaze_0 rfl ?_
  refine gx_callRN C (k_X6_isGlaze l (k := k) (L := L) _) ⟨va_cnB 1 C.2.2.2.2.1 gX5_fillGlaze_X6_isGlaze_n136 rfl rfl rfl (C.2.2.2.2.2.1.2.2 (RX5, 136, yX6_isGlaze) (by decide +kernel)) (C.2.2.2.2.1 _ wd_X5_fillGlaze_ini_RX6) kdN_X6_isGlaze ⟨Nat.le_of_ble_eq_true rfl, Nat.le_of_ble_eq_true rfl⟩, C.2.2.2.2.1 _ wd_X5_fillGlaze_st_X6_isGlaze, trivial⟩ rfl rfl (Nat.le_of_ble_eq_true rfl) ⟨Nat.le_of_ble_eq_true rfl, Nat.le_of_ble_eq_true rfl⟩ dX5_fillGlaze_1 ?_
  refine gx_if_ne (tgt := 9) C dX5_fillGlaze_4 (by decide) (fun c_4 => ?_) (fun c_4 => ?_)
  · skip
    have h_4 := bI1.mp c_4
    refine gx_iload_n (q := 2) C dX5_fillGlaze_9 rfl ?_
    refine gx_iconst (v := 1) C dX5_fillGlaze_10 (by decide) ?_
    refine gx_bipush (v := 99) C dX5_fillGlaze_11 (by decide) ?_
    refine gx_callRN C (k_X6_isWithin l (k := k) (L := L) _ _ _) ⟨va_cnB 3 C.2.2.2.2.1 gX5_fillGlaze_X6_isWithin_n67 rfl rfl rfl (C.2.2.2.2.2.1.2.2 (RX5, 67, yX6_isWithin) (by decide +kernel)) (C.2.2.2.2.1 _ wd_X5_fillGlaze_ini_RX6) kdN_X6_isWithin ⟨Nat.le_of_ble_eq_true rfl, Nat.le_of_ble_eq_true rfl⟩, C.2.2.2.2.1 _ wd_X5_fillGlaze_st_X6_isWithin, trivial⟩ rfl rfl (Nat.le_of_ble_eq_true rfl) ⟨Nat.le_of_ble_eq_true rfl, Nat.le_of_ble_eq_true rfl⟩ dX5_fillGlaze_13 ?_
    refine gx_if_ne (tgt := 22) C dX5_fillGlaze_16 (by decide) (fun c_16 => ?_) (fun c_16 => ?_)
    · skip
      have h_16 := bI1.mp c_16
      refine gx_aload_n (q := 0) C dX5_fillGlaze_22 rfl ?_
      refine gx_get C (i := 3) (isWS_in hW 0 (Nat.le_of_ble_eq_true rfl)) (isWS_0 hW) rfl in_X5_fillGlaze_5 (by decide) fl_X5_fillGlaze_34 rfl dX5_fillGlaze_23 ?_
      refine gx_iload_n (q := 1) C dX5_fillGlaze_26 rfl ?_
      refine gx_aload_n (q := 0) C dX5_fillGlaze_27 rfl ?_
      refine gx_get C (i := 3) (isWS_in hW 0 (Nat.le_of_ble_eq_true rfl)) (isWS_0 hW) rfl in_X5_fillGlaze_5 (by decide) fl_X5_fillGlaze_34 rfl dX5_fillGlaze_28 ?_
      refine gx_iload_n (q := 1) C dX5_fillGlaze_31 rfl ?_
      refine gx_callR C (kw_X4_at l hW 10 (Nat.le_of_ble_eq_true rfl) 4 rfl _) (isWS_in hW 23 (Nat.le_of_ble_eq_true rfl)) (isWS_row hW 10 (Nat.le_of_ble_eq_true rfl)) rfl (cwV 1 C.2.2.2.2.1 gX5_fillGlaze_X4_at rfl rfl rfl kdV_X4_at ⟨Nat.le_of_ble_eq_true rfl, Nat.le_of_ble_eq_true rfl⟩) rfl rfl (Nat.le_of_ble_eq_true rfl) ⟨Nat.le_of_ble_eq_true rfl, Nat.le_of_ble_eq_true rfl⟩ dX5_fillGlaze_32 ?_
      refine gx_iload_n (q := 2) C dX5_fillGlaze_35 rfl ?_
      refine gx_iadd C dX5_fillGlaze_36 ?_
      refine gx_bipush (v := 99) C dX5_fillGlaze_37 (by decide) ?_
      refine gx_min C wd_X5_fillGlaze_ml157 wd_X5_fillGlaze_ms_min wd_X5_fillGlaze_mi wd_X5_fillGlaze_mc_min (Nat.le_of_ble_eq_true rfl) (Nat.le_of_ble_eq_true rfl) ⟨Nat.le_of_ble_eq_true rfl, Nat.le_of_ble_eq_true rfl⟩ dX5_fillGlaze_39 ?_
      refine gx_callWv C hD (gFr_rf (f := f)) (kw_X4_write l hL hW 10 (Nat.le_of_ble_eq_true rfl) 4 rfl _ _) (isWS_in hW 23 (Nat.le_of_ble_eq_true rfl)) (isWS_row hW 10 (Nat.le_of_ble_eq_true rfl)) rfl (cwV 2 C.2.2.2.2.1 gX5_fillGlaze_X4_write rfl rfl rfl kdV_X4_write ⟨Nat.le_of_ble_eq_true rfl, Nat.le_of_ble_eq_true rfl⟩) rfl rfl (Nat.le_of_ble_eq_true rfl) ⟨Nat.le_of_ble_eq_true rfl, Nat.le_of_ble_eq_true rfl⟩ dX5_fillGlaze_42 (fun f_1 hW_1 hF_1 => ?_)
      refine gx_aload_n (q := 0) C dX5_fillGlaze_45 rfl ?_
      refine gx_get C (i := 3) (isWS_in hW_1 0 (Nat.le_of_ble_eq_true rfl)) (isWS_0 hW_1) rfl in_X5_fillGlaze_5 (by decide) fl_X5_fillGlaze_34 rfl dX5_fillGlaze_46 ?_
      refine gx_iload_n (q := 1) C dX5_fillGlaze_49 rfl ?_
      refine gx_callR C (kw_X4_at l hW_1 10 (Nat.le_of_ble_eq_true rfl) 4 rfl _) (isWS_in hW_1 23 (Nat.le_of_ble_eq_true rfl)) (isWS_row hW_1 10 (Nat.le_of_ble_eq_true rfl)) rfl (cwV 1 C.2.2.2.2.1 gX5_fillGlaze_X4_at rfl rfl rfl kdV_X4_at ⟨Nat.le_of_ble_eq_true rfl, Nat.le_of_ble_eq_true rfl⟩) rfl rfl (Nat.le_of_ble_eq_true rfl) ⟨Nat.le_of_ble_eq_true rfl, Nat.le_of_ble_eq_true rfl⟩ dX5_fillGlaze_50 ?_
      exact gx_iretW C hr hW_1 hF_1 dX5_fillGlaze_53 ((if_pos h_4).trans ((if_pos h_16).trans (rfl))).symm ((if_pos h_4).trans ((if_pos h_16).trans (rfl))).symm
    · skip
      have h_16 := bI0.mp c_16
      refine gx_bipush (v := (-2)) C dX5_fillGlaze_19 (by decide) ?_
      exact gx_iretW C hr hW (gFr_rf (f := f)) dX5_fillGlaze_21 ((if_pos h_4).trans ((if_neg (bF h_16)).trans (rfl))).symm ((if_pos h_4).trans ((if_neg (bF h_16)).trans (rfl))).symm
  · skip
    have h_4 := bI0.mp c_4
    refine gx_iconst (v := (-1)) C dX5_fillGlaze_7 (by decide) ?_
    exact gx_iretW C hr hW (gFr_rf (f := f)) dX5_fillGlaze_8 ((if_neg (bF h_4)).trans (rfl)).symm ((if_neg (bF h_4)).trans (rfl)).symm
theorem kdN_X5_handOver : yX5_handOver.cls ≠ "java/lang/invoke/MethodHandle" ∧ yX5_handOver.cls ≠ "java/lang/invoke/VarHandle" ∧ (parseMethodDescriptor yX5_handOver.desc).map (fun d => d.parameters.length) = some 1 := by decide +kernel
theorem kdV_X5_handOver : yX5_handOver.cls = RX5 ∧ yX5_handOver.cls ≠ "java/lang/invoke/MethodHandle" ∧ yX5_handOver.cls ≠ "java/lang/invoke/VarHandle" ∧ (parseMethodDescriptor yX5_handOver.desc).map (fun d => d.parameters.length) = some 1 := ⟨rfl, kdN_X5_handOver⟩
def vX5_handOver (w : WS) (q : Int32) : Int32 := (if (cHas w q) = true then (if (cKind w q 3) = true then (if (cRack w q) = true then ((rAt 4 (w.1 0) 3) * (rAt 20 (w.1 3) q)) else (-5)) else (-5)) else (-1))
def wX5_handOver (w : WS) (q : Int32) : WS := (if (cHas w q) = true then (if (cKind w q 3) = true then (if (cRack w q) = true then (wRow (wRow w 11 (rPut 10 (w.1 11) (rAt 20 (w.1 2) q) (rAt 10 (w.1 11) (rAt 20 (w.1 2) q) + ((rAt 4 (w.1 0) 3) * (rAt 20 (w.1 3) q))))) 6 (rPut 20 ((wRow w 11 (rPut 10 (w.1 11) (rAt 20 (w.1 2) q) (rAt 10 (w.1 11) (rAt 20 (w.1 2) q) + ((rAt 4 (w.1 0) 3) * (rAt 20 (w.1 3) q))))).1 6) q 25)) else w) else w) else w)
theorem in_X5_handOver_5 : ∀ w ∈ u_ws RX5 TX5 8, w ∈ wsX5_handOver := by decide +kernel
theorem fl_X5_handOver_30 : Cond.fieldLink RX5 30 (TX5 2).1 (TX5 2).2.1 (TX5 2).2.2.1 ∈ wsX5_handOver := by decide +kernel
theorem fl_X5_handOver_14 : Cond.fieldLink RX5 14 (TX5 0).1 (TX5 0).2.1 (TX5 0).2.2.1 ∈ wsX5_handOver := by decide +kernel
theorem in_X5_handOver_3 : ∀ w ∈ u_ws RX3 TX3 9, w ∈ wsX5_handOver := by decide +kernel
theorem fl_X5_handOver_37 : Cond.fieldLink RX5 37 (TX5 4).1 (TX5 4).2.1 (TX5 4).2.2.1 ∈ wsX5_handOver := by decide +kernel
abbrev rmX5_handOver : Room := { frames := 2, cells := 0, slots := 0, locals := 44 }
set_option maxHeartbeats 4000000 in
set_option maxRecDepth 100000 in
theorem k_X5_handOver (l : Launch) {k : gK} {L : List Nat} {f : Nat → va_E} (hL : L.Nodup) {a : Nat → Nat} {w : WS} (hW : isWS k L f a w) (q : Int32) : kM l k L f yX5_handOver wsX5_handOver rmX5_handOver [.ref (a 0), .int q] (wP k L a f (some (.int (vX5_handOver w q))) (wX5_handOver w q)) := by
  refine kM_of (cc := cX5_handOver) (maxL := 3) (ret := (some .int)) (by decide) rfl (Nat.le_of_ble_eq_true rfl) ?_
  intro p e s m args below meth c C hr
  have hD : gD (fun q => q ∈ L) L := ⟨hL, fun _ h => h⟩
  refine gx_lv [(0, _), (1, _)] [0, 1] rfl ?_
  refine gx_aload_n (q := 0) C dX5_handOver_0 rfl ?_
  refine gx_get C (i := 2) (isWS_in hW 0 (Nat.le_of_ble_eq_true rfl)) (isWS_0 hW) rfl in_X5_handOver_5 (by decide) fl_X5_handOver_30 rfl dX5_handOver_1 ?_
  refine gx_iload_n (q := 1) C dX5_handOver_4 rfl ?_
  refine gx_callR C (k_X3_has l hW _) (isWS_in hW 2 (Nat.le_of_ble_eq_true rfl)) (isWS_2 hW) rfl (cwV 1 C.2.2.2.2.1 gX5_handOver_X3_has rfl rfl rfl kdV_X3_has ⟨Nat.le_of_ble_eq_true rfl, Nat.le_of_ble_eq_true rfl⟩) rfl rfl (Nat.le_of_ble_eq_true rfl) ⟨Nat.le_of_ble_eq_true rfl, Nat.le_of_ble_eq_true rfl⟩ dX5_handOver_5 ?_
  refine gx_if_ne (tgt := 13) C dX5_handOver_8 (by decide) (fun c_8 => ?_) (fun c_8 => ?_)
  · skip
    have h_8 := bI1.mp c_8
    refine gx_aload_n (q := 0) C dX5_handOver_13 rfl ?_
    refine gx_get C (i := 2) (isWS_in hW 0 (Nat.le_of_ble_eq_true rfl)) (isWS_0 hW) rfl in_X5_handOver_5 (by decide) fl_X5_handOver_30 rfl dX5_handOver_14 ?_
    refine gx_iload_n (q := 1) C dX5_handOver_17 rfl ?_
    refine gx_iconst (v := 3) C dX5_handOver_18 (by decide) ?_
    refine gx_callR C (k_X3_isKind l hW _ _) (isWS_in hW 2 (Nat.le_of_ble_eq_true rfl)) (isWS_2 hW) rfl (cwV 2 C.2.2.2.2.1 gX5_handOver_X3_isKind rfl rfl rfl kdV_X3_isKind ⟨Nat.le_of_ble_eq_true rfl, Nat.le_of_ble_eq_true rfl⟩) rfl rfl (Nat.le_of_ble_eq_true rfl) ⟨Nat.le_of_ble_eq_true rfl, Nat.le_of_ble_eq_true rfl⟩ dX5_handOver_19 ?_
    refine gx_if_eq (tgt := 36) C dX5_handOver_22 (by decide) (fun c_22 => ?_) (fun c_22 => ?_)
    · skip
      have h_22 := bI0.mp c_22
      refine gx_bipush (v := (-5)) C dX5_handOver_36 (by decide) ?_
      exact gx_iretW C hr hW (gFr_rf (f := f)) dX5_handOver_38 ((if_pos h_8).trans ((if_neg (bF h_22)).trans (rfl))).symm ((if_pos h_8).trans ((if_neg (bF h_22)).trans (rfl))).symm
    · skip
      have h_22 := bI1.mp c_22
      refine gx_aload_n (q := 0) C dX5_handOver_25 rfl ?_
      refine gx_get C (i := 2) (isWS_in hW 0 (Nat.le_of_ble_eq_true rfl)) (isWS_0 hW) rfl in_X5_handOver_5 (by decide) fl_X5_handOver_30 rfl dX5_handOver_26 ?_
      refine gx_iload_n (q := 1) C dX5_handOver_29 rfl ?_
      refine gx_callR C (k_X3_isOnRack l hW _) (isWS_in hW 2 (Nat.le_of_ble_eq_true rfl)) (isWS_2 hW) rfl (cwV 1 C.2.2.2.2.1 gX5_handOver_X3_isOnRack rfl rfl rfl kdV_X3_isOnRack ⟨Nat.le_of_ble_eq_true rfl, Nat.le_of_ble_eq_true rfl⟩) rfl rfl (Nat.le_of_ble_eq_true rfl) ⟨Nat.le_of_ble_eq_true rfl, Nat.le_of_ble_eq_true rfl⟩ dX5_handOver_30 ?_
      refine gx_if_ne (tgt := 39) C dX5_handOver_33 (by decide) (fun c_33 => ?_) (fun c_33 => ?_)
      · skip
        have h_33 := bI1.mp c_33
        refine gx_aload_n (q := 0) C dX5_handOver_39 rfl ?_
        refine gx_get C (i := 0) (isWS_in hW 0 (Nat.le_of_ble_eq_true rfl)) (isWS_0 hW) rfl in_X5_handOver_5 (by decide) fl_X5_handOver_14 rfl dX5_handOver_40 ?_
        refine gx_iconst (v := 3) C dX5_handOver_43 (by decide) ?_
        refine gx_callR C (kw_X4_at l hW 0 (Nat.le_of_ble_eq_true rfl) 4 rfl _) (isWS_in hW 3 (Nat.le_of_ble_eq_true rfl)) (isWS_row hW 0 (Nat.le_of_ble_eq_true rfl)) rfl (cwV 1 C.2.2.2.2.1 gX5_handOver_X4_at rfl rfl rfl kdV_X4_at ⟨Nat.le_of_ble_eq_true rfl, Nat.le_of_ble_eq_true rfl⟩) rfl rfl (Nat.le_of_ble_eq_true rfl) ⟨Nat.le_of_ble_eq_true rfl, Nat.le_of_ble_eq_true rfl⟩ dX5_handOver_44 ?_
        refine gx_aload_n (q := 0) C dX5_handOver_47 rfl ?_
        refine gx_get C (i := 2) (isWS_in hW 0 (Nat.le_of_ble_eq_true rfl)) (isWS_0 hW) rfl in_X5_handOver_5 (by decide) fl_X5_handOver_30 rfl dX5_handOver_48 ?_
        refine gx_getN C (i := 1) (isWS_in hW 2 (Nat.le_of_ble_eq_true rfl)) (isWS_2 hW) rfl in_X5_handOver_3 (by decide) (by decide +kernel) rfl dX5_handOver_51 ?_
        refine gx_iload_n (q := 1) C dX5_handOver_54 rfl ?_
        refine gx_callR C (kw_X4_at l hW 3 (Nat.le_of_ble_eq_true rfl) 20 rfl _) (isWS_in hW 9 (Nat.le_of_ble_eq_true rfl)) (isWS_row hW 3 (Nat.le_of_ble_eq_true rfl)) rfl (cwV 1 C.2.2.2.2.1 gX5_handOver_X4_at rfl rfl rfl kdV_X4_at ⟨Nat.le_of_ble_eq_true rfl, Nat.le_of_ble_eq_true rfl⟩) rfl rfl (Nat.le_of_ble_eq_true rfl) ⟨Nat.le_of_ble_eq_true rfl, Nat.le_of_ble_eq_true rfl⟩ dX5_handOver_55 ?_
        refine gx_imul C dX5_handOver_58 ?_
        refine gx_istore_n C (i := 2) [(2, _), (0, _), (1, _)] dX5_handOver_59 rfl (by decide) rfl ?_
        refine gx_aload_n (q := 1) C dX5_handOver_60 rfl ?_
        refine gx_get C (i := 4) (isWS_in hW 0 (Nat.le_of_ble_eq_true rfl)) (isWS_0 hW) rfl in_X5_handOver_5 (by decide) fl_X5_handOver_37 rfl dX5_handOver_61 ?_
        refine gx_aload_n (q := 1) C dX5_handOver_64 rfl ?_
        refine gx_get C (i := 2) (isWS_in hW 0 (Nat.le_of_ble_eq_true rfl)) (isWS_0 hW) rfl in_X5_handOver_5 (by decide) fl_X5_handOver_30 rfl dX5_handOver_65 ?_
        refine gx_getN C (i := 0) (isWS_in hW 2 (Nat.le_of_ble_eq_true rfl)) (isWS_2 hW) rfl in_X5_handOver_3 (by decide) (by decide +kernel) rfl dX5_handOver_68 ?_
        refine gx_iload_n (q := 2) C dX5_handOver_71 rfl ?_
        refine gx_callR C (kw_X4_at l hW 2 (Nat.le_of_ble_eq_true rfl) 20 rfl _) (isWS_in hW 7 (Nat.le_of_ble_eq_true rfl)) (isWS_row hW 2 (Nat.le_of_ble_eq_true rfl)) rfl (cwV 1 C.2.2.2.2.1 gX5_handOver_X4_at rfl rfl rfl kdV_X4_at ⟨Nat.le_of_ble_eq_true rfl, Nat.le_of_ble_eq_true rfl⟩) rfl rfl (Nat.le_of_ble_eq_true rfl) ⟨Nat.le_of_ble_eq_true rfl, Nat.le_of_ble_eq_true rfl⟩ dX5_handOver_72 ?_
        refine gx_iload_n (q := 0) C dX5_handOver_75 rfl ?_
        refine gx_callWv C hD (gFr_rf (f := f)) (kw_X4_add l hL hW 11 (Nat.le_of_ble_eq_true rfl) 10 rfl _ _) (isWS_in hW 25 (Nat.le_of_ble_eq_true rfl)) (isWS_row hW 11 (Nat.le_of_ble_eq_true rfl)) rfl (cwV 2 C.2.2.2.2.1 gX5_handOver_X4_add rfl rfl rfl kdV_X4_add ⟨Nat.le_of_ble_eq_true rfl, Nat.le_of_ble_eq_true rfl⟩) rfl rfl (Nat.le_of_ble_eq_true rfl) ⟨Nat.le_of_ble_eq_true rfl, Nat.le_of_ble_eq_true rfl⟩ dX5_handOver_76 (fun f_1 hW_1 hF_1 => ?_)
        refine gx_aload_n (q := 1) C dX5_handOver_79 rfl ?_
        refine gx_get C (i := 2) (isWS_in hW_1 0 (Nat.le_of_ble_eq_true rfl)) (isWS_0 hW_1) rfl in_X5_handOver_5 (by decide) fl_X5_handOver_30 rfl dX5_handOver_80 ?_
        refine gx_getN C (i := 4) (isWS_in hW_1 2 (Nat.le_of_ble_eq_true rfl)) (isWS_2 hW_1) rfl in_X5_handOver_3 (by decide) (by decide +kernel) rfl dX5_handOver_83 ?_
        refine gx_iload_n (q := 2) C dX5_handOver_86 rfl ?_
        refine gx_bipush (v := 25) C dX5_handOver_87 (by decide) ?_
        refine gx_callWv C hD hF_1 (kw_X4_write l hL hW_1 6 (Nat.le_of_ble_eq_true rfl) 20 rfl _ _) (isWS_in hW_1 15 (Nat.le_of_ble_eq_true rfl)) (isWS_row hW_1 6 (Nat.le_of_ble_eq_true rfl)) rfl (cwV 2 C.2.2.2.2.1 gX5_handOver_X4_write rfl rfl rfl kdV_X4_write ⟨Nat.le_of_ble_eq_true rfl, Nat.le_of_ble_eq_true rfl⟩) rfl rfl (Nat.le_of_ble_eq_true rfl) ⟨Nat.le_of_ble_eq_true rfl, Nat.le_of_ble_eq_true rfl⟩ dX5_handOver_89 (fun f_2 hW_2 hF_2 => ?_)
        refine gx_iload_n (q := 0) C dX5_handOver_92 rfl ?_
        exact gx_iretW C hr hW_2 hF_2 dX5_handOver_93 ((if_pos h_8).trans ((if_pos h_22).trans ((if_pos h_33).trans (rfl)))).symm ((if_pos h_8).trans ((if_pos h_22).trans ((if_pos h_33).trans (rfl)))).symm
      · skip
        have h_33 := bI0.mp c_33
        refine gx_bipush (v := (-5)) C dX5_handOver_36 (by decide) ?_
        exact gx_iretW C hr hW (gFr_rf (f := f)) dX5_handOver_38 ((if_pos h_8).trans ((if_pos h_22).trans ((if_neg (bF h_33)).trans (rfl)))).symm ((if_pos h_8).trans ((if_pos h_22).trans ((if_neg (bF h_33)).trans (rfl)))).symm
  · skip
    have h_8 := bI0.mp c_8
    refine gx_iconst (v := (-1)) C dX5_handOver_11 (by decide) ?_
    exact gx_iretW C hr hW (gFr_rf (f := f)) dX5_handOver_12 ((if_neg (bF h_8)).trans (rfl)).symm ((if_neg (bF h_8)).trans (rfl)).symm
theorem kdN_X5_nightsLacking : yX5_nightsLacking.cls ≠ "java/lang/invoke/MethodHandle" ∧ yX5_nightsLacking.cls ≠ "java/lang/invoke/VarHandle" ∧ (parseMethodDescriptor yX5_nightsLacking.desc).map (fun d => d.parameters.length) = some 1 := by decide +kernel
theorem kdV_X5_nightsLacking : yX5_nightsLacking.cls = RX5 ∧ yX5_nightsLacking.cls ≠ "java/lang/invoke/MethodHandle" ∧ yX5_nightsLacking.cls ≠ "java/lang/invoke/VarHandle" ∧ (parseMethodDescriptor yX5_nightsLacking.desc).map (fun d => d.parameters.length) = some 1 := ⟨rfl, kdN_X5_nightsLacking⟩
def vX5_nightsLacking (w : WS) (q : Int32) : Int32 := (if (((rAt 4 (w.1 0) 0) * (rAt 20 (w.1 3) q)) - (rAt 20 (w.1 7) q)) < 0 then 0 else (((rAt 4 (w.1 0) 0) * (rAt 20 (w.1 3) q)) - (rAt 20 (w.1 7) q)))
theorem in_X5_nightsLacking_5 : ∀ w ∈ u_ws RX5 TX5 8, w ∈ wsX5_nightsLacking := by decide +kernel
theorem fl_X5_nightsLacking_14 : Cond.fieldLink RX5 14 (TX5 0).1 (TX5 0).2.1 (TX5 0).2.2.1 ∈ wsX5_nightsLacking := by decide +kernel
theorem fl_X5_nightsLacking_30 : Cond.fieldLink RX5 30 (TX5 2).1 (TX5 2).2.1 (TX5 2).2.2.1 ∈ wsX5_nightsLacking := by decide +kernel
theorem in_X5_nightsLacking_3 : ∀ w ∈ u_ws RX3 TX3 9, w ∈ wsX5_nightsLacking := by decide +kernel
theorem wd_X5_nightsLacking_ml170 : Cond.methodLink RX5 170 Lib.Math.max.name ∈ wsX5_nightsLacking := by decide +kernel
theorem wd_X5_nightsLacking_ms_max : Cond.static Lib.Math.max.name ∈ wsX5_nightsLacking := by decide +kernel
theorem wd_X5_nightsLacking_mi : Cond.initialized "java/lang/Math" ∈ wsX5_nightsLacking := by decide +kernel
theorem wd_X5_nightsLacking_mc_max : Cond.code Lib.Math.max.name Lib.Math.max.code 2 (some .int) ∈ wsX5_nightsLacking := by decide +kernel
abbrev rmX5_nightsLacking : Room := { frames := 1, cells := 0, slots := 0, locals := 24 }
set_option maxHeartbeats 4000000 in
set_option maxRecDepth 100000 in
theorem k_X5_nightsLacking (l : Launch) {k : gK} {L : List Nat} {f : Nat → va_E} {a : Nat → Nat} {w : WS} (hW : isWS k L f a w) (q : Int32) : kR l k L f yX5_nightsLacking wsX5_nightsLacking rmX5_nightsLacking [.ref (a 0), .int q] (.int (vX5_nightsLacking w q)) := by
  refine kR_of (cc := cX5_nightsLacking) (maxL := 2) (ret := (some .int)) (by decide) rfl (Nat.le_of_ble_eq_true rfl) ?_
  intro p e s m args below meth c C hr
  refine gx_lv [(0, _), (1, _)] [0, 1] rfl ?_
  refine gx_aload_n (q := 0) C dX5_nightsLacking_0 rfl ?_
  refine gx_get C (i := 0) (isWS_in hW 0 (Nat.le_of_ble_eq_true rfl)) (isWS_0 hW) rfl in_X5_nightsLacking_5 (by decide) fl_X5_nightsLacking_14 rfl dX5_nightsLacking_1 ?_
  refine gx_iconst (v := 0) C dX5_nightsLacking_4 (by decide) ?_
  refine gx_callR C (kw_X4_at l hW 0 (Nat.le_of_ble_eq_true rfl) 4 rfl _) (isWS_in hW 3 (Nat.le_of_ble_eq_true rfl)) (isWS_row hW 0 (Nat.le_of_ble_eq_true rfl)) rfl (cwV 1 C.2.2.2.2.1 gX5_nightsLacking_X4_at rfl rfl rfl kdV_X4_at ⟨Nat.le_of_ble_eq_true rfl, Nat.le_of_ble_eq_true rfl⟩) rfl rfl (Nat.le_of_ble_eq_true rfl) ⟨Nat.le_of_ble_eq_true rfl, Nat.le_of_ble_eq_true rfl⟩ dX5_nightsLacking_5 ?_
  refine gx_aload_n (q := 0) C dX5_nightsLacking_8 rfl ?_
  refine gx_get C (i := 2) (isWS_in hW 0 (Nat.le_of_ble_eq_true rfl)) (isWS_0 hW) rfl in_X5_nightsLacking_5 (by decide) fl_X5_nightsLacking_30 rfl dX5_nightsLacking_9 ?_
  refine gx_getN C (i := 1) (isWS_in hW 2 (Nat.le_of_ble_eq_true rfl)) (isWS_2 hW) rfl in_X5_nightsLacking_3 (by decide) (by decide +kernel) rfl dX5_nightsLacking_12 ?_
  refine gx_iload_n (q := 1) C dX5_nightsLacking_15 rfl ?_
  refine gx_callR C (kw_X4_at l hW 3 (Nat.le_of_ble_eq_true rfl) 20 rfl _) (isWS_in hW 9 (Nat.le_of_ble_eq_true rfl)) (isWS_row hW 3 (Nat.le_of_ble_eq_true rfl)) rfl (cwV 1 C.2.2.2.2.1 gX5_nightsLacking_X4_at rfl rfl rfl kdV_X4_at ⟨Nat.le_of_ble_eq_true rfl, Nat.le_of_ble_eq_true rfl⟩) rfl rfl (Nat.le_of_ble_eq_true rfl) ⟨Nat.le_of_ble_eq_true rfl, Nat.le_of_ble_eq_true rfl⟩ dX5_nightsLacking_16 ?_
  refine gx_imul C dX5_nightsLacking_19 ?_
  refine gx_aload_n (q := 0) C dX5_nightsLacking_20 rfl ?_
  refine gx_get C (i := 2) (isWS_in hW 0 (Nat.le_of_ble_eq_true rfl)) (isWS_0 hW) rfl in_X5_nightsLacking_5 (by decide) fl_X5_nightsLacking_30 rfl dX5_nightsLacking_21 ?_
  refine gx_getN C (i := 5) (isWS_in hW 2 (Nat.le_of_ble_eq_true rfl)) (isWS_2 hW) rfl in_X5_nightsLacking_3 (by decide) (by decide +kernel) rfl dX5_nightsLacking_24 ?_
  refine gx_iload_n (q := 1) C dX5_nightsLacking_27 rfl ?_
  refine gx_callR C (kw_X4_at l hW 7 (Nat.le_of_ble_eq_true rfl) 20 rfl _) (isWS_in hW 17 (Nat.le_of_ble_eq_true rfl)) (isWS_row hW 7 (Nat.le_of_ble_eq_true rfl)) rfl (cwV 1 C.2.2.2.2.1 gX5_nightsLacking_X4_at rfl rfl rfl kdV_X4_at ⟨Nat.le_of_ble_eq_true rfl, Nat.le_of_ble_eq_true rfl⟩) rfl rfl (Nat.le_of_ble_eq_true rfl) ⟨Nat.le_of_ble_eq_true rfl, Nat.le_of_ble_eq_true rfl⟩ dX5_nightsLacking_28 ?_
  refine gx_isub C dX5_nightsLacking_31 ?_
  refine gx_iconst (v := 0) C dX5_nightsLacking_32 (by decide) ?_
  refine gx_max C wd_X5_nightsLacking_ml170 wd_X5_nightsLacking_ms_max wd_X5_nightsLacking_mi wd_X5_nightsLacking_mc_max (Nat.le_of_ble_eq_true rfl) (Nat.le_of_ble_eq_true rfl) ⟨Nat.le_of_ble_eq_true rfl, Nat.le_of_ble_eq_true rfl⟩ dX5_nightsLacking_33 ?_
  exact gx_iretR C rfl hr dX5_nightsLacking_36 (congrArg Value.int (rfl).symm)
theorem kdN_X5_nightsUntilDry : yX5_nightsUntilDry.cls ≠ "java/lang/invoke/MethodHandle" ∧ yX5_nightsUntilDry.cls ≠ "java/lang/invoke/VarHandle" ∧ (parseMethodDescriptor yX5_nightsUntilDry.desc).map (fun d => d.parameters.length) = some 1 := by decide +kernel
theorem kdV_X5_nightsUntilDry : yX5_nightsUntilDry.cls = RX5 ∧ yX5_nightsUntilDry.cls ≠ "java/lang/invoke/MethodHandle" ∧ yX5_nightsUntilDry.cls ≠ "java/lang/invoke/VarHandle" ∧ (parseMethodDescriptor yX5_nightsUntilDry.desc).map (fun d => d.parameters.length) = some 1 := ⟨rfl, kdN_X5_nightsUntilDry⟩
def vX5_nightsUntilDry (w : WS) (q : Int32) : Int32 := (if (cHas w q) = true then (if (cKind w q 0) = true then (if (cKiln w q) = true then (-5) else (if (cBeside w q) = true then (((vX5_nightsLacking w q) + 1) / 2) else (vX5_nightsLacking w q))) else 0) else (-1))
theorem in_X5_nightsUntilDry_5 : ∀ w ∈ u_ws RX5 TX5 8, w ∈ wsX5_nightsUntilDry := by decide +kernel
theorem fl_X5_nightsUntilDry_30 : Cond.fieldLink RX5 30 (TX5 2).1 (TX5 2).2.1 (TX5 2).2.2.1 ∈ wsX5_nightsUntilDry := by decide +kernel
abbrev rmX5_nightsUntilDry : Room := { frames := 2, cells := 0, slots := 0, locals := 45 }
set_option maxHeartbeats 4000000 in
set_option maxRecDepth 100000 in
theorem k_X5_nightsUntilDry (l : Launch) {k : gK} {L : List Nat} {f : Nat → va_E} {a : Nat → Nat} {w : WS} (hW : isWS k L f a w) (q : Int32) : kR l k L f yX5_nightsUntilDry wsX5_nightsUntilDry rmX5_nightsUntilDry [.ref (a 0), .int q] (.int (vX5_nightsUntilDry w q)) := by
  refine kR_of (cc := cX5_nightsUntilDry) (maxL := 3) (ret := (some .int)) (by decide) rfl (Nat.le_of_ble_eq_true rfl) ?_
  intro p e s m args below meth c C hr
  refine gx_lv [(0, _), (1, _)] [0, 1] rfl ?_
  refine gx_aload_n (q := 0) C dX5_nightsUntilDry_0 rfl ?_
  refine gx_get C (i := 2) (isWS_in hW 0 (Nat.le_of_ble_eq_true rfl)) (isWS_0 hW) rfl in_X5_nightsUntilDry_5 (by decide) fl_X5_nightsUntilDry_30 rfl dX5_nightsUntilDry_1 ?_
  refine gx_iload_n (q := 1) C dX5_nightsUntilDry_4 rfl ?_
  refine gx_callR C (k_X3_has l hW _) (isWS_in hW 2 (Nat.le_of_ble_eq_true rfl)) (isWS_2 hW) rfl (cwV 1 C.2.2.2.2.1 gX5_nightsUntilDry_X3_has rfl rfl rfl kdV_X3_has ⟨Nat.le_of_ble_eq_true rfl, Nat.le_of_ble_eq_true rfl⟩) rfl rfl (Nat.le_of_ble_eq_true rfl) ⟨Nat.le_of_ble_eq_true rfl, Nat.le_of_ble_eq_true rfl⟩ dX5_nightsUntilDry_5 ?_
  refine gx_if_ne (tgt := 13) C dX5_nightsUntilDry_8 (by decide) (fun c_8 => ?_) (fun c_8 => ?_)
  · skip
    have h_8 := bI1.mp c_8
    refine gx_aload_n (q := 0) C dX5_nightsUntilDry_13 rfl ?_
    refine gx_get C (i := 2) (isWS_in hW 0 (Nat.le_of_ble_eq_true rfl)) (isWS_0 hW) rfl in_X5_nightsUntilDry_5 (by decide) fl_X5_nightsUntilDry_30 rfl dX5_nightsUntilDry_14 ?_
    refine gx_iload_n (q := 1) C dX5_nightsUntilDry_17 rfl ?_
    refine gx_iconst (v := 0) C dX5_nightsUntilDry_18 (by decide) ?_
    refine gx_callR C (k_X3_isKind l hW _ _) (isWS_in hW 2 (Nat.le_of_ble_eq_true rfl)) (isWS_2 hW) rfl (cwV 2 C.2.2.2.2.1 gX5_nightsUntilDry_X3_isKind rfl rfl rfl kdV_X3_isKind ⟨Nat.le_of_ble_eq_true rfl, Nat.le_of_ble_eq_true rfl⟩) rfl rfl (Nat.le_of_ble_eq_true rfl) ⟨Nat.le_of_ble_eq_true rfl, Nat.le_of_ble_eq_true rfl⟩ dX5_nightsUntilDry_19 ?_
    refine gx_if_ne (tgt := 27) C dX5_nightsUntilDry_22 (by decide) (fun c_22 => ?_) (fun c_22 => ?_)
    · skip
      have h_22 := bI1.mp c_22
      refine gx_aload_n (q := 0) C dX5_nightsUntilDry_27 rfl ?_
      refine gx_get C (i := 2) (isWS_in hW 0 (Nat.le_of_ble_eq_true rfl)) (isWS_0 hW) rfl in_X5_nightsUntilDry_5 (by decide) fl_X5_nightsUntilDry_30 rfl dX5_nightsUntilDry_28 ?_
      refine gx_iload_n (q := 1) C dX5_nightsUntilDry_31 rfl ?_
      refine gx_callR C (k_X3_isInKiln l hW _) (isWS_in hW 2 (Nat.le_of_ble_eq_true rfl)) (isWS_2 hW) rfl (cwV 1 C.2.2.2.2.1 gX5_nightsUntilDry_X3_isInKiln rfl rfl rfl kdV_X3_isInKiln ⟨Nat.le_of_ble_eq_true rfl, Nat.le_of_ble_eq_true rfl⟩) rfl rfl (Nat.le_of_ble_eq_true rfl) ⟨Nat.le_of_ble_eq_true rfl, Nat.le_of_ble_eq_true rfl⟩ dX5_nightsUntilDry_32 ?_
      refine gx_if_eq (tgt := 41) C dX5_nightsUntilDry_35 (by decide) (fun c_35 => ?_) (fun c_35 => ?_)
      · skip
        have h_35 := bI0.mp c_35
        refine gx_aload_n (q := 0) C dX5_nightsUntilDry_41 rfl ?_
        refine gx_iload_n (q := 1) C dX5_nightsUntilDry_42 rfl ?_
        refine gx_callR C (k_X5_nightsLacking l hW _) (isWS_in hW 0 (Nat.le_of_ble_eq_true rfl)) (isWS_0 hW) rfl (cwV 1 C.2.2.2.2.1 gX5_nightsUntilDry_X5_nightsLacking rfl rfl rfl kdV_X5_nightsLacking ⟨Nat.le_of_ble_eq_true rfl, Nat.le_of_ble_eq_true rfl⟩) rfl rfl (Nat.le_of_ble_eq_true rfl) ⟨Nat.le_of_ble_eq_true rfl, Nat.le_of_ble_eq_true rfl⟩ dX5_nightsUntilDry_43 ?_
        refine gx_istore_n C (i := 2) [(2, _), (0, _), (1, _)] dX5_nightsUntilDry_46 rfl (by decide) rfl ?_
        refine gx_aload_n (q := 1) C dX5_nightsUntilDry_47 rfl ?_
        refine gx_get C (i := 2) (isWS_in hW 0 (Nat.le_of_ble_eq_true rfl)) (isWS_0 hW) rfl in_X5_nightsUntilDry_5 (by decide) fl_X5_nightsUntilDry_30 rfl dX5_nightsUntilDry_48 ?_
        refine gx_iload_n (q := 2) C dX5_nightsUntilDry_51 rfl ?_
        refine gx_callR C (k_X3_isBesideKiln l hW _) (isWS_in hW 2 (Nat.le_of_ble_eq_true rfl)) (isWS_2 hW) rfl (cwV 1 C.2.2.2.2.1 gX5_nightsUntilDry_X3_isBesideKiln rfl rfl rfl kdV_X3_isBesideKiln ⟨Nat.le_of_ble_eq_true rfl, Nat.le_of_ble_eq_true rfl⟩) rfl rfl (Nat.le_of_ble_eq_true rfl) ⟨Nat.le_of_ble_eq_true rfl, Nat.le_of_ble_eq_true rfl⟩ dX5_nightsUntilDry_52 ?_
        refine gx_if_eq (tgt := 66) C dX5_nightsUntilDry_55 (by decide) (fun c_55 => ?_) (fun c_55 => ?_)
        · skip
          have h_55 := bI0.mp c_55
          refine gx_iload_n (q := 0) C dX5_nightsUntilDry_66 rfl ?_
          exact gx_iretR C rfl hr dX5_nightsUntilDry_67 (congrArg Value.int ((if_pos h_8).trans ((if_pos h_22).trans ((if_neg (bF h_35)).trans ((if_neg (bF h_55)).trans (rfl))))).symm)
        · skip
          have h_55 := bI1.mp c_55
          refine gx_iload_n (q := 0) C dX5_nightsUntilDry_58 rfl ?_
          refine gx_iconst (v := 1) C dX5_nightsUntilDry_59 (by decide) ?_
          refine gx_iadd C dX5_nightsUntilDry_60 ?_
          refine gx_iconst (v := 2) C dX5_nightsUntilDry_61 (by decide) ?_
          refine gx_idiv C (by decide) dX5_nightsUntilDry_62 ?_
          refine gx_goto (tgt := 67) C dX5_nightsUntilDry_63 (by decide) ?_
          exact gx_iretR C rfl hr dX5_nightsUntilDry_67 (congrArg Value.int ((if_pos h_8).trans ((if_pos h_22).trans ((if_neg (bF h_35)).trans ((if_pos h_55).trans (rfl))))).symm)
      · skip
        have h_35 := bI1.mp c_35
        refine gx_bipush (v := (-5)) C dX5_nightsUntilDry_38 (by decide) ?_
        exact gx_iretR C rfl hr dX5_nightsUntilDry_40 (congrArg Value.int ((if_pos h_8).trans ((if_pos h_22).trans ((if_pos h_35).trans (rfl)))).symm)
    · skip
      have h_22 := bI0.mp c_22
      refine gx_iconst (v := 0) C dX5_nightsUntilDry_25 (by decide) ?_
      exact gx_iretR C rfl hr dX5_nightsUntilDry_26 (congrArg Value.int ((if_pos h_8).trans ((if_neg (bF h_22)).trans (rfl))).symm)
  · skip
    have h_8 := bI0.mp c_8
    refine gx_iconst (v := (-1)) C dX5_nightsUntilDry_11 (by decide) ?_
    exact gx_iretR C rfl hr dX5_nightsUntilDry_12 (congrArg Value.int ((if_neg (bF h_8)).trans (rfl)).symm)
