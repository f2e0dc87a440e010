theorem kdN_X6_isWithin : yX6_isWithin.cls ≠ "java/lang/invoke/MethodHandle" ∧ yX6_isWithin.cls ≠ "java/lang/invoke/VarHandle" ∧ (parseMethodDescriptor yX6_isWithin.desc).map (fun d => d.parameters.length) = some 3 := by decide +kernel
theorem kdV_X6_isWithin : yX6_isWithin.cls = RX6 ∧ yX6_isWithin.cls ≠ "java/lang/invoke/MethodHandle" ∧ yX6_isWithin.cls ≠ "java/lang/invoke/VarHandle" ∧ (parseMethodDescriptor yX6_isWithin.desc).map (fun d => d.parameters.length) = some 3 := ⟨rfl, kdN_X6_isWithin⟩
abbrev rmX6_isWithin : Room := { frames := 0, cells := 0, slots := 0, locals := 0 }
set_option maxHeartbeats 4000000 in
set_option maxRecDepth 100000 in
theorem k_X6_isWithin (l : Launch) {k : gK} {L : List Nat} {f : Nat → va_E}  (v : Int32) (lo : Int32) (hi : Int32) : kR l k L f yX6_isWithin wsX6_isWithin rmX6_isWithin [.int v, .int lo, .int hi] (.int (bI (isW v lo hi))) := by
  refine kR_of (cc := cX6_isWithin) (maxL := 3) (ret := (some .boolean)) (by decide) rfl (Nat.le_of_ble_eq_true rfl) ?_
  intro p e s m args below meth c C hr
  refine gx_lv [(0, _), (1, _), (2, _)] [0, 1, 2] rfl ?_
  refine gx_iload_n (q := 0) C dX6_isWithin_0 rfl ?_
  refine gx_iload_n (q := 1) C dX6_isWithin_1 rfl ?_
  refine gx_icmp_lt (tgt := 14) C dX6_isWithin_2 (by decide) (fun c_2 => ?_) (fun c_2 => ?_)
  · skip
    refine gx_iconst (v := 0) C dX6_isWithin_14 (by decide) ?_
    exact gx_zretR C rfl hr (Or.inl rfl) dX6_isWithin_15 (congrArg Value.int (by simp [isW, bI, c_2]))
  · skip
    refine gx_iload_n (q := 0) C dX6_isWithin_5 rfl ?_
    refine gx_iload_n (q := 2) C dX6_isWithin_6 rfl ?_
    refine gx_icmp_gt (tgt := 14) C dX6_isWithin_7 (by decide) (fun c_7 => ?_) (fun c_7 => ?_)
    · skip
      refine gx_iconst (v := 0) C dX6_isWithin_14 (by decide) ?_
      exact gx_zretR C rfl hr (Or.inl rfl) dX6_isWithin_15 (congrArg Value.int (by simp [isW, bI, c_2, c_7]))
    · skip
      refine gx_iconst (v := 1) C dX6_isWithin_10 (by decide) ?_
      refine gx_goto (tgt := 15) C dX6_isWithin_11 (by decide) ?_
      exact gx_zretR C rfl hr (Or.inr rfl) dX6_isWithin_15 (congrArg Value.int (by simp [isW, bI, c_2, c_7]))
theorem kdN_X6_isAhead : yX6_isAhead.cls ≠ "java/lang/invoke/MethodHandle" ∧ yX6_isAhead.cls ≠ "java/lang/invoke/VarHandle" ∧ (parseMethodDescriptor yX6_isAhead.desc).map (fun d => d.parameters.length) = some 1 := by decide +kernel
theorem kdV_X6_isAhead : yX6_isAhead.cls = RX6 ∧ yX6_isAhead.cls ≠ "java/lang/invoke/MethodHandle" ∧ yX6_isAhead.cls ≠ "java/lang/invoke/VarHandle" ∧ (parseMethodDescriptor yX6_isAhead.desc).map (fun d => d.parameters.length) = some 1 := ⟨rfl, kdN_X6_isAhead⟩
abbrev rmX6_isAhead : Room := { frames := 1, cells := 0, slots := 0, locals := 22 }
set_option maxHeartbeats 4000000 in
set_option maxRecDepth 100000 in
theorem k_X6_isAhead (l : Launch) {k : gK} {L : List Nat} {f : Nat → va_E}  (v : Int32) : kR l k L f yX6_isAhead wsX6_isAhead rmX6_isAhead [.int v] (.int (bI (isW v 0 20))) := by
  refine kR_of (cc := cX6_isAhead) (maxL := 1) (ret := (some .boolean)) (by decide) rfl (Nat.le_of_ble_eq_true rfl) ?_
  intro p e s m args below meth c C hr
  refine gx_lv [(0, _)] [0] rfl ?_
  refine gx_iload_n (q := 0) C dX6_isAhead_0 rfl ?_
  refine gx_iconst (v := 0) C dX6_isAhead_1 (by decide) ?_
  refine gx_bipush (v := 20) C dX6_isAhead_2 (by decide) ?_
  refine gx_callRS C (k_X6_isWithin l (k := k) (L := L) _ _ _) (va_cwS 3 C.2.2.2.2.1 gX6_isAhead_X6_isWithin rfl rfl rfl kdN_X6_isWithin ⟨Nat.le_of_ble_eq_true rfl, Nat.le_of_ble_eq_true rfl⟩) rfl rfl (Nat.le_of_ble_eq_true rfl) ⟨Nat.le_of_ble_eq_true rfl, Nat.le_of_ble_eq_true rfl⟩ dX6_isAhead_4 ?_
  exact gx_zretR C rfl hr (bI01 _) dX6_isAhead_7 (congrArg Value.int (by rfl))
theorem kdN_X6_isHeat : yX6_isHeat.cls ≠ "java/lang/invoke/MethodHandle" ∧ yX6_isHeat.cls ≠ "java/lang/invoke/VarHandle" ∧ (parseMethodDescriptor yX6_isHeat.desc).map (fun d => d.parameters.length) = some 1 := by decide +kernel
theorem kdV_X6_isHeat : yX6_isHeat.cls = RX6 ∧ yX6_isHeat.cls ≠ "java/lang/invoke/MethodHandle" ∧ yX6_isHeat.cls ≠ "java/lang/invoke/VarHandle" ∧ (parseMethodDescriptor yX6_isHeat.desc).map (fun d => d.parameters.length) = some 1 := ⟨rfl, kdN_X6_isHeat⟩
abbrev rmX6_isHeat : Room := { frames := 1, cells := 0, slots := 0, locals := 22 }
set_option maxHeartbeats 4000000 in
set_option maxRecDepth 100000 in
theorem k_X6_isHeat (l : Launch) {k : gK} {L : List Nat} {f : Nat → va_E}  (v : Int32) : kR l k L f yX6_isHeat wsX6_isHeat rmX6_isHeat [.int v] (.int (bI (isW v 80 140))) := by
  refine kR_of (cc := cX6_isHeat) (maxL := 1) (ret := (some .boolean)) (by decide) rfl (Nat.le_of_ble_eq_true rfl) ?_
  intro p e s m args below meth c C hr
  refine gx_lv [(0, _)] [0] rfl ?_
  refine gx_iload_n (q := 0) C dX6_isHeat_0 rfl ?_
  refine gx_bipush (v := 80) C dX6_isHeat_1 (by decide) ?_
  refine gx_sipush (v := 140) C dX6_isHeat_3 (by decide) ?_
  refine gx_callRS C (k_X6_isWithin l (k := k) (L := L) _ _ _) (va_cwS 3 C.2.2.2.2.1 gX6_isHeat_X6_isWithin rfl rfl rfl kdN_X6_isWithin ⟨Nat.le_of_ble_eq_true rfl, Nat.le_of_ble_eq_true rfl⟩) rfl rfl (Nat.le_of_ble_eq_true rfl) ⟨Nat.le_of_ble_eq_true rfl, Nat.le_of_ble_eq_true rfl⟩ dX6_isHeat_6 ?_
  exact gx_zretR C rfl hr (bI01 _) dX6_isHeat_9 (congrArg Value.int (by rfl))
theorem kdN_X6_isWheel : yX6_isWheel.cls ≠ "java/lang/invoke/MethodHandle" ∧ yX6_isWheel.cls ≠ "java/lang/invoke/VarHandle" ∧ (parseMethodDescriptor yX6_isWheel.desc).map (fun d => d.parameters.length) = some 1 := by decide +kernel
theorem kdV_X6_isWheel : yX6_isWheel.cls = RX6 ∧ yX6_isWheel.cls ≠ "java/lang/invoke/MethodHandle" ∧ yX6_isWheel.cls ≠ "java/lang/invoke/VarHandle" ∧ (parseMethodDescriptor yX6_isWheel.desc).map (fun d => d.parameters.length) = some 1 := ⟨rfl, kdN_X6_isWheel⟩
abbrev rmX6_isWheel : Room := { frames := 1, cells := 0, slots := 0, locals := 22 }
set_option maxHeartbeats 4000000 in
set_option maxRecDepth 100000 in
theorem k_X6_isWheel (l : Launch) {k : gK} {L : List Nat} {f : Nat → va_E}  (v : Int32) : kR l k L f yX6_isWheel wsX6_isWheel rmX6_isWheel [.int v] (.int (bI (isW v 0 4))) := by
  refine kR_of (cc := cX6_isWheel) (maxL := 1) (ret := (some .boolean)) (by decide) rfl (Nat.le_of_ble_eq_true rfl) ?_
  intro p e s m args below meth c C hr
  refine gx_lv [(0, _)] [0] rfl ?_
  refine gx_iload_n (q := 0) C dX6_isWheel_0 rfl ?_
  refine gx_iconst (v := 0) C dX6_isWheel_1 (by decide) ?_
  refine gx_iconst (v := 4) C dX6_isWheel_2 (by decide) ?_
  refine gx_callRS C (k_X6_isWithin l (k := k) (L := L) _ _ _) (va_cwS 3 C.2.2.2.2.1 gX6_isWheel_X6_isWithin rfl rfl rfl kdN_X6_isWithin ⟨Nat.le_of_ble_eq_true rfl, Nat.le_of_ble_eq_true rfl⟩) rfl rfl (Nat.le_of_ble_eq_true rfl) ⟨Nat.le_of_ble_eq_true rfl, Nat.le_of_ble_eq_true rfl⟩ dX6_isWheel_3 ?_
  exact gx_zretR C rfl hr (bI01 _) dX6_isWheel_6 (congrArg Value.int (by rfl))
theorem kdN_X6_isGlaze : yX6_isGlaze.cls ≠ "java/lang/invoke/MethodHandle" ∧ yX6_isGlaze.cls ≠ "java/lang/invoke/VarHandle" ∧ (parseMethodDescriptor yX6_isGlaze.desc).map (fun d => d.parameters.length) = some 1 := by decide +kernel
theorem kdV_X6_isGlaze : yX6_isGlaze.cls = RX6 ∧ yX6_isGlaze.cls ≠ "java/lang/invoke/MethodHandle" ∧ yX6_isGlaze.cls ≠ "java/lang/invoke/VarHandle" ∧ (parseMethodDescriptor yX6_isGlaze.desc).map (fun d => d.parameters.length) = some 1 := ⟨rfl, kdN_X6_isGlaze⟩
abbrev rmX6_isGlaze : Room := { frames := 1, cells := 0, slots := 0, locals := 22 }
set_option maxHeartbeats 4000000 in
set_option maxRecDepth 100000 in
theorem k_X6_isGlaze (l : Launch) {k : gK} {L : List Nat} {f : Nat → va_E}  (v : Int32) : kR l k L f yX6_isGlaze wsX6_isGlaze rmX6_isGlaze [.int v] (.int (bI (isW v 0 3))) := by
  refine kR_of (cc := cX6_isGlaze) (maxL := 1) (ret := (some .boolean)) (by decide) rfl (Nat.le_of_ble_eq_true rfl) ?_
  intro p e s m args below meth c C hr
  refine gx_lv [(0, _)] [0] rfl ?_
  refine gx_iload_n (q := 0) C dX6_isGlaze_0 rfl ?_
  refine gx_iconst (v := 0) C dX6_isGlaze_1 (by decide) ?_
  refine gx_iconst (v := 3) C dX6_isGlaze_2 (by decide) ?_
  refine gx_callRS C (k_X6_isWithin l (k := k) (L := L) _ _ _) (va_cwS 3 C.2.2.2.2.1 gX6_isGlaze_X6_isWithin rfl rfl rfl kdN_X6_isWithin ⟨Nat.le_of_ble_eq_true rfl, Nat.le_of_ble_eq_true rfl⟩) rfl rfl (Nat.le_of_ble_eq_true rfl) ⟨Nat.le_of_ble_eq_true rfl, Nat.le_of_ble_eq_true rfl⟩ dX6_isGlaze_3 ?_
  exact gx_zretR C rfl hr (bI01 _) dX6_isGlaze_6 (congrArg Value.int (by rfl))
theorem kdN_X0_cellOf : yX0_cellOf.cls ≠ "java/lang/invoke/MethodHandle" ∧ yX0_cellOf.cls ≠ "java/lang/invoke/VarHandle" ∧ (parseMethodDescriptor yX0_cellOf.desc).map (fun d => d.parameters.length) = some 2 := by decide +kernel
theorem kdV_X0_cellOf : yX0_cellOf.cls = RX0 ∧ yX0_cellOf.cls ≠ "java/lang/invoke/MethodHandle" ∧ yX0_cellOf.cls ≠ "java/lang/invoke/VarHandle" ∧ (parseMethodDescriptor yX0_cellOf.desc).map (fun d => d.parameters.length) = some 2 := ⟨rfl, kdN_X0_cellOf⟩
theorem in_X0_cellOf_0 : ∀ w ∈ u_ws RX0 TX0 3, w ∈ wsX0_cellOf := by decide +kernel
theorem fl_X0_cellOf_24 : Cond.fieldLink RX0 24 (TX0 1).1 (TX0 1).2.1 (TX0 1).2.2.1 ∈ wsX0_cellOf := by decide +kernel
abbrev rmX0_cellOf : Room := { frames := 0, cells := 0, slots := 0, locals := 0 }
set_option maxHeartbeats 4000000 in
set_option maxRecDepth 100000 in
theorem k_X0_cellOf (l : Launch) {k : gK} {L : List Nat} {f : Nat → va_E} {a : Nat → Nat} {w : WS} (hW : isWS k L f a w) (wh : Int32) (ah : Int32) : kR l k L f yX0_cellOf wsX0_cellOf rmX0_cellOf [.ref (a 1), .int wh, .int ah] (.int (cCell w wh ah)) := by
  refine kR_of (cc := cX0_cellOf) (maxL := 3) (ret := (some .int)) (by decide) rfl (Nat.le_of_ble_eq_true rfl) ?_
  intro p e s m args below meth c C hr
  refine gx_lv [(0, _), (1, _), (2, _)] [0, 1, 2] rfl ?_
  refine gx_iconst (v := 5) C dX0_cellOf_0 (by decide) ?_
  refine gx_aload_n (q := 0) C dX0_cellOf_1 rfl ?_
  refine gx_get C (i := 1) (isWS_in hW 1 (Nat.le_of_ble_eq_true rfl)) (isWS_1 hW) rfl in_X0_cellOf_0 (by decide) fl_X0_cellOf_24 rfl dX0_cellOf_2 ?_
  refine gx_iload_n (q := 2) C dX0_cellOf_5 rfl ?_
  refine gx_iadd C dX0_cellOf_6 ?_
  refine gx_bipush (v := 21) C dX0_cellOf_7 (by decide) ?_
  refine gx_irem C (by decide) dX0_cellOf_9 ?_
  refine gx_imul C dX0_cellOf_10 ?_
  refine gx_iload_n (q := 1) C dX0_cellOf_11 rfl ?_
  refine gx_iadd C dX0_cellOf_12 ?_
  exact gx_iretR C rfl hr dX0_cellOf_13 (congrArg Value.int (by rfl))
theorem kdN_X0_bookerOf : yX0_bookerOf.cls ≠ "java/lang/invoke/MethodHandle" ∧ yX0_bookerOf.cls ≠ "java/lang/invoke/VarHandle" ∧ (parseMethodDescriptor yX0_bookerOf.desc).map (fun d => d.parameters.length) = some 2 := by decide +kernel
theorem kdV_X0_bookerOf : yX0_bookerOf.cls = RX0 ∧ yX0_bookerOf.cls ≠ "java/lang/invoke/MethodHandle" ∧ yX0_bookerOf.cls ≠ "java/lang/invoke/VarHandle" ∧ (parseMethodDescriptor yX0_bookerOf.desc).map (fun d => d.parameters.length) = some 2 := ⟨rfl, kdN_X0_bookerOf⟩
theorem in_X0_bookerOf_0 : ∀ w ∈ u_ws RX0 TX0 3, w ∈ wsX0_bookerOf := by decide +kernel
theorem fl_X0_bookerOf_14 : Cond.fieldLink RX0 14 (TX0 0).1 (TX0 0).2.1 (TX0 0).2.2.1 ∈ wsX0_bookerOf := by decide +kernel
abbrev rmX0_bookerOf : Room := { frames := 1, cells := 0, slots := 0, locals := 22 }
set_option maxHeartbeats 4000000 in
set_option maxRecDepth 100000 in
theorem k_X0_bookerOf (l : Launch) {k : gK} {L : List Nat} {f : Nat → va_E} {a : Nat → Nat} {w : WS} (hW : isWS k L f a w) (wh : Int32) (ah : Int32) : kR l k L f yX0_bookerOf wsX0_bookerOf rmX0_bookerOf [.ref (a 1), .int wh, .int ah] (.int (cBooker w wh ah)) := by
  refine kR_of (cc := cX0_bookerOf) (maxL := 4) (ret := (some .int)) (by decide) rfl (Nat.le_of_ble_eq_true rfl) ?_
  intro p e s m args below meth c C hr
  refine gx_lv [(0, _), (1, _), (2, _)] [0, 1, 2] rfl ?_
  refine gx_aload_n (q := 0) C dX0_bookerOf_0 rfl ?_
  refine gx_get C (i := 0) (isWS_in hW 1 (Nat.le_of_ble_eq_true rfl)) (isWS_1 hW) rfl in_X0_bookerOf_0 (by decide) fl_X0_bookerOf_14 rfl dX0_bookerOf_1 ?_
  refine gx_aload_n (q := 0) C dX0_bookerOf_4 rfl ?_
  refine gx_iload_n (q := 1) C dX0_bookerOf_5 rfl ?_
  refine gx_iload_n (q := 2) C dX0_bookerOf_6 rfl ?_
  refine gx_callR C (k_X0_cellOf l hW _ _) (isWS_in hW 1 (Nat.le_of_ble_eq_true rfl)) (isWS_1 hW) rfl (cwV 2 C.2.2.2.2.1 gX0_bookerOf_X0_cellOf rfl rfl rfl kdV_X0_cellOf ⟨Nat.le_of_ble_eq_true rfl, Nat.le_of_ble_eq_true rfl⟩) rfl rfl (Nat.le_of_ble_eq_true rfl) ⟨Nat.le_of_ble_eq_true rfl, Nat.le_of_ble_eq_true rfl⟩ dX0_bookerOf_7 ?_
  refine gx_callR C (kw_X4_at l hW 1 (Nat.le_of_ble_eq_true rfl) 105 rfl _) (isWS_in hW 5 (Nat.le_of_ble_eq_true rfl)) (isWS_row hW 1 (Nat.le_of_ble_eq_true rfl)) rfl (cwV 1 C.2.2.2.2.1 gX0_bookerOf_X4_at rfl rfl rfl kdV_X4_at ⟨Nat.le_of_ble_eq_true rfl, Nat.le_of_ble_eq_true rfl⟩) rfl rfl (Nat.le_of_ble_eq_true rfl) ⟨Nat.le_of_ble_eq_true rfl, Nat.le_of_ble_eq_true rfl⟩ dX0_bookerOf_10 ?_
  refine gx_istore_n C (i := 3) [(3, _), (0, _), (1, _), (2, _)] dX0_bookerOf_13 rfl (by decide) rfl ?_
  refine gx_iload_n (q := 0) C dX0_bookerOf_14 rfl ?_
  refine gx_if_ne (tgt := 23) C dX0_bookerOf_15 (by decide) (fun c_15 => ?_) (fun c_15 => ?_)
  · skip
    refine gx_iload_n (q := 0) C dX0_bookerOf_23 rfl ?_
    refine gx_iconst (v := 1) C dX0_bookerOf_24 (by decide) ?_
    refine gx_isub C dX0_bookerOf_25 ?_
    exact gx_iretR C rfl hr dX0_bookerOf_26 (congrArg Value.int (by first | exact (if_pos c_15).symm | exact (if_neg c_15).symm))
  · skip
    refine gx_bipush (v := (-6)) C dX0_bookerOf_18 (by decide) ?_
    refine gx_goto (tgt := 26) C dX0_bookerOf_20 (by decide) ?_
    exact gx_iretR C rfl hr dX0_bookerOf_26 (congrArg Value.int (by first | exact (if_pos c_15).symm | exact (if_neg c_15).symm))
theorem kdN_X0_enter : yX0_enter.cls ≠ "java/lang/invoke/MethodHandle" ∧ yX0_enter.cls ≠ "java/lang/invoke/VarHandle" ∧ (parseMethodDescriptor yX0_enter.desc).map (fun d => d.parameters.length) = some 3 := by decide +kernel
theorem kdV_X0_enter : yX0_enter.cls = RX0 ∧ yX0_enter.cls ≠ "java/lang/invoke/MethodHandle" ∧ yX0_enter.cls ≠ "java/lang/invoke/VarHandle" ∧ (parseMethodDescriptor yX0_enter.desc).map (fun d => d.parameters.length) = some 3 := ⟨rfl, kdN_X0_enter⟩
theorem in_X0_enter_0 : ∀ w ∈ u_ws RX0 TX0 3, w ∈ wsX0_enter := by decide +kernel
theorem fl_X0_enter_14 : Cond.fieldLink RX0 14 (TX0 0).1 (TX0 0).2.1 (TX0 0).2.2.1 ∈ wsX0_enter := by decide +kernel
abbrev rmX0_enter : Room := { frames := 1, cells := 0, slots := 0, locals := 22 }
set_option maxHeartbeats 4000000 in
set_option maxRecDepth 100000 in
theorem k_X0_enter (l : Launch) {k : gK} {L : List Nat} {f : Nat → va_E} (hL : L.Nodup) {a : Nat → Nat} {w : WS} (hW : isWS k L f a w) (wh : Int32) (ah : Int32) (q : Int32) : kM l k L f yX0_enter wsX0_enter rmX0_enter [.ref (a 1), .int wh, .int ah, .int q] (wP k L a f none (cEnter w wh ah q)) := by
  refine kM_of (cc := cX0_enter) (maxL := 4) (ret := none) (by decide) rfl (Nat.le_of_ble_eq_true rfl) ?_
  intro p e s m args below meth c C hr
  have hD : gD (fun q => q ∈ L) L := ⟨hL, fun _ h => h⟩
  refine gx_lv [(0, _), (1, _), (2, _), (3, _)] [0, 1, 2, 3] rfl ?_
  refine gx_aload_n (q := 0) C dX0_enter_0 rfl ?_
  refine gx_get C (i := 0) (isWS_in hW 1 (Nat.le_of_ble_eq_true rfl)) (isWS_1 hW) rfl in_X0_enter_0 (by decide) fl_X0_enter_14 rfl dX0_enter_1 ?_
  refine gx_aload_n (q := 0) C dX0_enter_4 rfl ?_
  refine gx_iload_n (q := 1) C dX0_enter_5 rfl ?_
  refine gx_iload_n (q := 2) C dX0_enter_6 rfl ?_
  refine gx_callR C (k_X0_cellOf l hW _ _) (isWS_in hW 1 (Nat.le_of_ble_eq_true rfl)) (isWS_1 hW) rfl (cwV 2 C.2.2.2.2.1 gX0_enter_X0_cellOf rfl rfl rfl kdV_X0_cellOf ⟨Nat.le_of_ble_eq_true rfl, Nat.le_of_ble_eq_true rfl⟩) rfl rfl (Nat.le_of_ble_eq_true rfl) ⟨Nat.le_of_ble_eq_true rfl, Nat.le_of_ble_eq_true rfl⟩ dX0_enter_7 ?_
  refine gx_iload_n (q := 3) C dX0_enter_10 rfl ?_
  refine gx_iconst (v := 1) C dX0_enter_11 (by decide) ?_
  refine gx_iadd C dX0_enter_12 ?_
  refine gx_callWv C hD (gFr_rf (f := f)) (kw_X4_write l hL hW 1 (Nat.le_of_ble_eq_true rfl) 105 rfl _ _) (isWS_in hW 5 (Nat.le_of_ble_eq_true rfl)) (isWS_row hW 1 (Nat.le_of_ble_eq_true rfl)) rfl (cwV 2 C.2.2.2.2.1 gX0_enter_X4_write rfl rfl rfl kdV_X4_write ⟨Nat.le_of_ble_eq_true rfl, Nat.le_of_ble_eq_true rfl⟩) rfl rfl (Nat.le_of_ble_eq_true rfl) ⟨Nat.le_of_ble_eq_true rfl, Nat.le_of_ble_eq_true rfl⟩ dX0_enter_13 (fun f_1 hW_1 hF_1 => ?_)
  exact gx_vretW C hr hW_1 hF_1 dX0_enter_16 (by rfl)
theorem kdN_X0_cross : yX0_cross.cls ≠ "java/lang/invoke/MethodHandle" ∧ yX0_cross.cls ≠ "java/lang/invoke/VarHandle" ∧ (parseMethodDescriptor yX0_cross.desc).map (fun d => d.parameters.length) = some 2 := by decide +kernel
theorem kdV_X0_cross : yX0_cross.cls = RX0 ∧ yX0_cross.cls ≠ "java/lang/invoke/MethodHandle" ∧ yX0_cross.cls ≠ "java/lang/invoke/VarHandle" ∧ (parseMethodDescriptor yX0_cross.desc).map (fun d => d.parameters.length) = some 2 := ⟨rfl, kdN_X0_cross⟩
theorem in_X0_cross_0 : ∀ w ∈ u_ws RX0 TX0 3, w ∈ wsX0_cross := by decide +kernel
theorem fl_X0_cross_14 : Cond.fieldLink RX0 14 (TX0 0).1 (TX0 0).2.1 (TX0 0).2.2.1 ∈ wsX0_cross := by decide +kernel
abbrev rmX0_cross : Room := { frames := 1, cells := 0, slots := 0, locals := 22 }
set_option maxHeartbeats 4000000 in
set_option maxRecDepth 100000 in
theorem k_X0_cross (l : Launch) {k : gK} {L : List Nat} {f : Nat → va_E} (hL : L.Nodup) {a : Nat → Nat} {w : WS} (hW : isWS k L f a w) (wh : Int32) (ah : Int32) : kM l k L f yX0_cross wsX0_cross rmX0_cross [.ref (a 1), .int wh, .int ah] (wP k L a f none (cCross w wh ah)) := by
  refine kM_of (cc := cX0_cross) (maxL := 3) (ret := none) (by decide) rfl (Nat.le_of_ble_eq_true rfl) ?_
  intro p e s m args below meth c C hr
  have hD : gD (fun q => q ∈ L) L := ⟨hL, fun _ h => h⟩
  refine gx_lv [(0, _), (1, _), (2, _)] [0, 1, 2] rfl ?_
  refine gx_aload_n (q := 0) C dX0_cross_0 rfl ?_
  refine gx_get C (i := 0) (isWS_in hW 1 (Nat.le_of_ble_eq_true rfl)) (isWS_1 hW) rfl in_X0_cross_0 (by decide) fl_X0_cross_14 rfl dX0_cross_1 ?_
  refine gx_aload_n (q := 0) C dX0_cross_4 rfl ?_
  refine gx_iload_n (q := 1) C dX0_cross_5 rfl ?_
  refine gx_iload_n (q := 2) C dX0_cross_6 rfl ?_
  refine gx_callR C (k_X0_cellOf l hW _ _) (isWS_in hW 1 (Nat.le_of_ble_eq_true rfl)) (isWS_1 hW) rfl (cwV 2 C.2.2.2.2.1 gX0_cross_X0_cellOf rfl rfl rfl kdV_X0_cellOf ⟨Nat.le_of_ble_eq_true rfl, Nat.le_of_ble_eq_true rfl⟩) rfl rfl (Nat.le_of_ble_eq_true rfl) ⟨Nat.le_of_ble_eq_true rfl, Nat.le_of_ble_eq_true rfl⟩ dX0_cross_7 ?_
  refine gx_iconst (v := 0) C dX0_cross_10 (by decide) ?_
  refine gx_callWv C hD (gFr_rf (f := f)) (kw_X4_write l hL hW 1 (Nat.le_of_ble_eq_true rfl) 105 rfl _ _) (isWS_in hW 5 (Nat.le_of_ble_eq_true rfl)) (isWS_row hW 1 (Nat.le_of_ble_eq_true rfl)) rfl (cwV 2 C.2.2.2.2.1 gX0_cross_X4_write rfl rfl rfl kdV_X4_write ⟨Nat.le_of_ble_eq_true rfl, Nat.le_of_ble_eq_true rfl⟩) rfl rfl (Nat.le_of_ble_eq_true rfl) ⟨Nat.le_of_ble_eq_true rfl, Nat.le_of_ble_eq_true rfl⟩ dX0_cross_11 (fun f_1 hW_1 hF_1 => ?_)
  exact gx_vretW C hr hW_1 hF_1 dX0_cross_14 (by rfl)
theorem kdN_X0_wheelOf : yX0_wheelOf.cls ≠ "java/lang/invoke/MethodHandle" ∧ yX0_wheelOf.cls ≠ "java/lang/invoke/VarHandle" ∧ (parseMethodDescriptor yX0_wheelOf.desc).map (fun d => d.parameters.length) = some 2 := by decide +kernel
theorem kdV_X0_wheelOf : yX0_wheelOf.cls = RX0 ∧ yX0_wheelOf.cls ≠ "java/lang/invoke/MethodHandle" ∧ yX0_wheelOf.cls ≠ "java/lang/invoke/VarHandle" ∧ (parseMethodDescriptor yX0_wheelOf.desc).map (fun d => d.parameters.length) = some 2 := ⟨rfl, kdN_X0_wheelOf⟩
abbrev rmX0_wheelOf : Room := { frames := 2, cells := 0, slots := 0, locals := 45 }
set_option maxHeartbeats 4000000 in
set_option maxRecDepth 100000 in
theorem k_X0_wheelOf (l : Launch) {k : gK} {L : List Nat} {f : Nat → va_E} {a : Nat → Nat} {w : WS} (hW : isWS k L f a w) (q : Int32) (ah : Int32) : kR l k L f yX0_wheelOf wsX0_wheelOf rmX0_wheelOf [.ref (a 1), .int q, .int ah] (.int (cWheel w q ah)) := by
  refine kR_of (cc := cX0_wheelOf) (maxL := 4) (ret := (some .int)) (by decide) rfl (Nat.le_of_ble_eq_true rfl) ?_
  intro p e s m args below meth c C hr
  refine gx_lv [(0, _), (1, _), (2, _)] [0, 1, 2] rfl ?_
  refine gx_iconst (v := 0) C dX0_wheelOf_0 (by decide) ?_
  refine gx_istore_n C (i := 3) [(3, _), (0, _), (1, _), (2, _)] dX0_wheelOf_1 rfl (by decide) rfl ?_
  refine gx_loop (σ := Nat) (fun i => f) (fun i => [(0, .ref (a 1)), (1, .int q), (2, .int ah), (3, .int (nI i))]) (fun i => i ≤ 5 ∧ fnd (cWheelP w q ah) i (5 - i) = cWheel w q ah) (fun i => 5 - i) 0 [1, 2, 3, 0] rfl rfl ?_ ?_
  · exact ⟨by decide, rfl⟩
  intro i hI ih
  try dsimp only at hI ih ⊢
  refine gx_iload_n (q := 3) C dX0_wheelOf_2 rfl ?_
  refine gx_iconst (v := 5) C dX0_wheelOf_3 (by decide) ?_
  refine gx_icmp_ge (tgt := 25) C dX0_wheelOf_4 (by decide) (fun c_4 => ?_) (fun c_4 => ?_)
  · skip
    have hb := (nI_leI (a := 5) (b := i) (by decide) (by omega)).mp c_4
    refine gx_bipush (v := (-6)) C dX0_wheelOf_25 (by decide) ?_
    exact gx_iretR C rfl hr dX0_wheelOf_27 (congrArg Value.int (by rw [← hI.2, show 5 - i = 0 by omega]; rfl))
  · skip
    have hlt : i < 5 := Nat.lt_of_not_le (fun z => c_4 ((nI_leI (a := 5) (b := i) (by decide) (by omega)).mpr z))
    refine gx_aload_n (q := 0) C dX0_wheelOf_7 rfl ?_
    refine gx_iload_n (q := 3) C dX0_wheelOf_8 rfl ?_
    refine gx_iload_n (q := 2) C dX0_wheelOf_9 rfl ?_
    refine gx_callR C (k_X0_bookerOf l hW _ _) (isWS_in hW 1 (Nat.le_of_ble_eq_true rfl)) (isWS_1 hW) rfl (cwV 2 C.2.2.2.2.1 gX0_wheelOf_X0_bookerOf rfl rfl rfl kdV_X0_bookerOf ⟨Nat.le_of_ble_eq_true rfl, Nat.le_of_ble_eq_true rfl⟩) rfl rfl (Nat.le_of_ble_eq_true rfl) ⟨Nat.le_of_ble_eq_true rfl, Nat.le_of_ble_eq_true rfl⟩ dX0_wheelOf_10 ?_
    refine gx_iload_n (q := 1) C dX0_wheelOf_13 rfl ?_
    refine gx_icmp_ne (tgt := 19) C dX0_wheelOf_14 (by decide) (fun c_14 => ?_) (fun c_14 => ?_)
    · skip
      refine gx_iinc C (q := 3) (v := nI (i + 1)) [(3, _), (0, _), (1, _), (2, _)] dX0_wheelOf_19 rfl (nI_inc i) (by decide) rfl ?_
      refine gx_goto (tgt := 2) C dX0_wheelOf_22 (by decide) ?_
      obtain ⟨n, hn⟩ : ∃ n, 5 - i = n + 1 := ⟨4 - i, by omega⟩
      have h2 := hI.2
      rw [hn, fnd_f (by simp [cWheelP, c_14])] at h2
      exact gx_back [1, 2, 3, 0] (ih (i + 1) ⟨by omega, by rw [show 5 - (i + 1) = n by omega]; exact h2⟩ (by omega)) rfl (by rfl)
    · skip
      refine gx_iload_n (q := 3) C dX0_wheelOf_17 rfl ?_
      exact gx_iretR C rfl hr dX0_wheelOf_18 (congrArg Value.int (by rw [← hI.2]; obtain ⟨n, hn⟩ : ∃ n, 5 - i = n + 1 := ⟨4 - i, by omega⟩; rw [hn, fnd_t (by simp [cWheelP, c_14])]))
theorem kdN_X0_lowestFreeWheel : yX0_lowestFreeWheel.cls ≠ "java/lang/invoke/MethodHandle" ∧ yX0_lowestFreeWheel.cls ≠ "java/lang/invoke/VarHandle" ∧ (parseMethodDescriptor yX0_lowestFreeWheel.desc).map (fun d => d.parameters.length) = some 1 := by decide +kernel
theorem kdV_X0_lowestFreeWheel : yX0_lowestFreeWheel.cls = RX0 ∧ yX0_lowestFreeWheel.cls ≠ "java/lang/invoke/MethodHandle" ∧ yX0_lowestFreeWheel.cls ≠ "java/lang/invoke/VarHandle" ∧ (parseMethodDescriptor yX0_lowestFreeWheel.desc).map (fun d => d.parameters.length) = some 1 := ⟨rfl, kdN_X0_lowestFreeWheel⟩
abbrev rmX0_lowestFreeWheel : Room := { frames := 2, cells := 0, slots := 0, locals := 45 }
set_option maxHeartbeats 4000000 in
set_option maxRecDepth 100000 in
theorem k_X0_lowestFreeWheel (l : Launch) {k : gK} {L : List Nat} {f : Nat → va_E} {a : Nat → Nat} {w : WS} (hW : isWS k L f a w) (ah : Int32) : kR l k L f yX0_lowestFreeWheel wsX0_lowestFreeWheel rmX0_lowestFreeWheel [.ref (a 1), .int ah] (.int (cLowest w ah)) := by
  refine kR_of (cc := cX0_lowestFreeWheel) (maxL := 3) (ret := (some .int)) (by decide) rfl (Nat.le_of_ble_eq_true rfl) ?_
  intro p e s m args below meth c C hr
  refine gx_lv [(0, _), (1, _)] [0, 1] rfl ?_
  refine gx_iconst (v := 0) C dX0_lowestFreeWheel_0 (by decide) ?_
  refine gx_istore_n C (i := 2) [(2, _), (0, _), (1, _)] dX0_lowestFreeWheel_1 rfl (by decide) rfl ?_
  refine gx_loop (σ := Nat) (fun i => f) (fun i => [(0, .ref (a 1)), (1, .int ah), (2, .int (nI i))]) (fun i => i ≤ 5 ∧ fnd (cWheelP w (-6) ah) i (5 - i) = cLowest w ah) (fun i => 5 - i) 0 [1, 2, 0] rfl rfl ?_ ?_
  · exact ⟨by decide, rfl⟩
  intro i hI ih
  try dsimp only at hI ih ⊢
  refine gx_iload_n (q := 2) C dX0_lowestFreeWheel_2 rfl ?_
  refine gx_iconst (v := 5) C dX0_lowestFreeWheel_3 (by decide) ?_
  refine gx_icmp_ge (tgt := 26) C dX0_lowestFreeWheel_4 (by decide) (fun c_4 => ?_) (fun c_4 => ?_)
  · skip
    have hb := (nI_leI (a := 5) (b := i) (by decide) (by omega)).mp c_4
    refine gx_bipush (v := (-6)) C dX0_lowestFreeWheel_26 (by decide) ?_
    exact gx_iretR C rfl hr dX0_lowestFreeWheel_28 (congrArg Value.int (by rw [← hI.2, show 5 - i = 0 by omega]; rfl))
  · skip
    have hlt : i < 5 := Nat.lt_of_not_le (fun z => c_4 ((nI_leI (a := 5) (b := i) (by decide) (by omega)).mpr z))
    refine gx_aload_n (q := 0) C dX0_lowestFreeWheel_7 rfl ?_
    refine gx_iload_n (q := 2) C dX0_lowestFreeWheel_8 rfl ?_
    refine gx_iload_n (q := 1) C dX0_lowestFreeWheel_9 rfl ?_
    refine gx_callR C (k_X0_bookerOf l hW _ _) (isWS_in hW 1 (Nat.le_of_ble_eq_true rfl)) (isWS_1 hW) rfl (cwV 2 C.2.2.2.2.1 gX0_lowestFreeWheel_X0_bookerOf rfl rfl rfl kdV_X0_bookerOf ⟨Nat.le_of_ble_eq_true rfl, Nat.le_of_ble_eq_true rfl⟩) rfl rfl (Nat.le_of_ble_eq_true rfl) ⟨Nat.le_of_ble_eq_true rfl, Nat.le_of_ble_eq_true rfl⟩ dX0_lowestFreeWheel_10 ?_
    refine gx_bipush (v := (-6)) C dX0_lowestFreeWheel_13 (by decide) ?_
    refine gx_icmp_ne (tgt := 20) C dX0_lowestFreeWheel_15 (by decide) (fun c_15 => ?_) (fun c_15 => ?_)
    · skip
      refine gx_iinc C (q := 2) (v := nI (i + 1)) [(2, _), (0, _), (1, _)] dX0_lowestFreeWheel_20 rfl (nI_inc i) (by decide) rfl ?_
      refine gx_goto (tgt := 2) C dX0_lowestFreeWheel_23 (by decide) ?_
      obtain ⟨n, hn⟩ : ∃ n, 5 - i = n + 1 := ⟨4 - i, by omega⟩
      have h2 := hI.2
      rw [hn, fnd_f (by simp [cWheelP, c_15])] at h2
      exact gx_back [1, 2, 0] (ih (i + 1) ⟨by omega, by rw [show 5 - (i + 1) = n by omega]; exact h2⟩ (by omega)) rfl (by rfl)
    · skip
      refine gx_iload_n (q := 2) C dX0_lowestFreeWheel_18 rfl ?_
      exact gx_iretR C rfl hr dX0_lowestFreeWheel_19 (congrArg Value.int (by rw [← hI.2]; obtain ⟨n, hn⟩ : ∃ n, 5 - i = n + 1 := ⟨4 - i, by omega⟩; rw [hn, fnd_t (by simp [cWheelP, c_15])]))
theorem kdN_X0_bookingsOf : yX0_bookingsOf.cls ≠ "java/lang/invoke/MethodHandle" ∧ yX0_bookingsOf.cls ≠ "java/lang/invoke/VarHandle" ∧ (parseMethodDescriptor yX0_bookingsOf.desc).map (fun d => d.parameters.length) = some 1 := by decide +kernel
theorem kdV_X0_bookingsOf : yX0_bookingsOf.cls = RX0 ∧ yX0_bookingsOf.cls ≠ "java/lang/invoke/MethodHandle" ∧ yX0_bookingsOf.cls ≠ "java/lang/invoke/VarHandle" ∧ (parseMethodDescriptor yX0_bookingsOf.desc).map (fun d => d.parameters.length) = some 1 := ⟨rfl, kdN_X0_bookingsOf⟩
abbrev rmX0_bookingsOf : Room := { frames := 3, cells := 0, slots := 0, locals := 68 }
set_option maxHeartbeats 4000000 in
set_option maxRecDepth 100000 in
theorem k_X0_bookingsOf (l : Launch) {k : gK} {L : List Nat} {f : Nat → va_E} {a : Nat → Nat} {w : WS} (hW : isWS k L f a w) (q : Int32) : kR l k L f yX0_bookingsOf wsX0_bookingsOf rmX0_bookingsOf [.ref (a 1), .int q] (.int (cBookings w q)) := by
  refine kR_of (cc := cX0_bookingsOf) (maxL := 4) (ret := (some .int)) (by decide) rfl (Nat.le_of_ble_eq_true rfl) ?_
  intro p e s m args below meth c C hr
  refine gx_lv [(0, _), (1, _)] [0, 1] rfl ?_
  refine gx_iconst (v := 0) C dX0_bookingsOf_0 (by decide) ?_
  refine gx_istore_n C (i := 2) [(2, _), (0, _), (1, _)] dX0_bookingsOf_1 rfl (by decide) rfl ?_
  refine gx_iconst (v := 0) C dX0_bookingsOf_2 (by decide) ?_
  refine gx_istore_n C (i := 3) [(3, _), (2, _), (0, _), (1, _)] dX0_bookingsOf_3 rfl (by decide) rfl ?_
  refine gx_loop (σ := Nat) (fun i => f) (fun i => [(0, .ref (a 1)), (1, .int q), (2, .int (cnI (cBookingsP w q) i)), (3, .int (nI i))]) (fun i => i ≤ 21) (fun i => 21 - i) 0 [2, 3, 1, 0] rfl rfl ?_ ?_
  · exact Nat.zero_le _
  intro i hI ih
  try dsimp only at hI ih ⊢
  refine gx_iload_n (q := 3) C dX0_bookingsOf_4 rfl ?_
  refine gx_bipush (v := 20) C dX0_bookingsOf_5 (by decide) ?_
  refine gx_icmp_gt (tgt := 30) C dX0_bookingsOf_7 (by decide) (fun c_7 => ?_) (fun c_7 => ?_)
  · skip
    have hb : i = 21 := Nat.le_antisymm hI (by have := (nI_ltI (a := 20) (b := i) (by decide) (by omega)).mp c_7; omega)
    refine gx_iload_n (q := 2) C dX0_bookingsOf_30 rfl ?_
    exact gx_iretR C rfl hr dX0_bookingsOf_31 (congrArg Value.int (by rw [hb]; rfl))
  · skip
    have hlt : i < 21 := by have := Nat.le_of_not_lt (fun z => c_7 ((nI_ltI (a := 20) (b := i) (by decide) (by omega)).mpr z)); omega
    refine gx_aload_n (q := 0) C dX0_bookingsOf_10 rfl ?_
    refine gx_iload_n (q := 1) C dX0_bookingsOf_11 rfl ?_
    refine gx_iload_n (q := 3) C dX0_bookingsOf_12 rfl ?_
    refine gx_callR C (k_X0_wheelOf l hW _ _) (isWS_in hW 1 (Nat.le_of_ble_eq_true rfl)) (isWS_1 hW) rfl (cwV 2 C.2.2.2.2.1 gX0_bookingsOf_X0_wheelOf rfl rfl rfl kdV_X0_wheelOf ⟨Nat.le_of_ble_eq_true rfl, Nat.le_of_ble_eq_true rfl⟩) rfl rfl (Nat.le_of_ble_eq_true rfl) ⟨Nat.le_of_ble_eq_true rfl, Nat.le_of_ble_eq_true rfl⟩ dX0_bookingsOf_13 ?_
    refine gx_bipush (v := (-6)) C dX0_bookingsOf_16 (by decide) ?_
    refine gx_icmp_eq (tgt := 24) C dX0_bookingsOf_18 (by decide) (fun c_18 => ?_) (fun c_18 => ?_)
    · skip
      refine gx_iinc C (q := 3) (v := nI (i + 1)) [(3, _), (0, _), (1, _), (2, _)] dX0_bookingsOf_24 rfl (nI_inc i) (by decide) rfl ?_
      refine gx_goto (tgt := 4) C dX0_bookingsOf_27 (by decide) ?_
      exact gx_back [1, 2, 3, 0] (ih (i + 1) (by omega) (by omega)) rfl (by rw [cnI_f (P := cBookingsP w q) (by simp [cBookingsP, c_18])]; rfl)
    · skip
      refine gx_iinc C (q := 2) (v := (cnI (cBookingsP w q) i + 1)) [(2, _), (0, _), (1, _), (3, _)] dX0_bookingsOf_21 rfl rfl (by decide) rfl ?_
      refine gx_iinc C (q := 3) (v := nI (i + 1)) [(3, _), (2, _), (0, _), (1, _)] dX0_bookingsOf_24 rfl (nI_inc i) (by decide) rfl ?_
      refine gx_goto (tgt := 4) C dX0_bookingsOf_27 (by decide) ?_
      exact gx_back [2, 3, 1, 0] (ih (i + 1) (by omega) (by omega)) rfl (by rw [cnI_t (P := cBookingsP w q) (by simp [cBookingsP, c_18])]; rfl)
theorem kdN_X0_hasThrownTonight : yX0_hasThrownTonight.cls ≠ "java/lang/invoke/MethodHandle" ∧ yX0_hasThrownTonight.cls ≠ "java/lang/invoke/VarHandle" ∧ (parseMethodDescriptor yX0_hasThrownTonight.desc).map (fun d => d.parameters.length) = some 1 := by decide +kernel
theorem kdV_X0_hasThrownTonight : yX0_hasThrownTonight.cls = RX0 ∧ yX0_hasThrownTonight.cls ≠ "java/lang/invoke/MethodHandle" ∧ yX0_hasThrownTonight.cls ≠ "java/lang/invoke/VarHandle" ∧ (parseMethodDescriptor yX0_hasThrownTonight.desc).map (fun d => d.parameters.length) = some 1 := ⟨rfl, kdN_X0_hasThrownTonight⟩
theorem in_X0_hasThrownTonight_0 : ∀ w ∈ u_ws RX0 TX0 3, w ∈ wsX0_hasThrownTonight := by decide +kernel
theorem fl_X0_hasThrownTonight_28 : Cond.fieldLink RX0 28 (TX0 2).1 (TX0 2).2.1 (TX0 2).2.2.1 ∈ wsX0_hasThrownTonight := by decide +kernel
abbrev rmX0_hasThrownTonight : Room := { frames := 0, cells := 0, slots := 0, locals := 0 }
set_option maxHeartbeats 4000000 in
set_option maxRecDepth 100000 in
theorem k_X0_hasThrownTonight (l : Launch) {k : gK} {L : List Nat} {f : Nat → va_E} {a : Nat → Nat} {w : WS} (hW : isWS k L f a w) (q : Int32) : kR l k L f yX0_hasThrownTonight wsX0_hasThrownTonight rmX0_hasThrownTonight [.ref (a 1), .int q] (.int (bI (cThrown w q))) := by
  refine kR_of (cc := cX0_hasThrownTonight) (maxL := 2) (ret := (some .boolean)) (by decide) rfl (Nat.le_of_ble_eq_true rfl) ?_
  intro p e s m args below meth c C hr
  refine gx_lv [(0, _), (1, _)] [0, 1] rfl ?_
  refine gx_aload_n (q := 0) C dX0_hasThrownTonight_0 rfl ?_
  refine gx_get C (i := 2) (isWS_in hW 1 (Nat.le_of_ble_eq_true rfl)) (isWS_1 hW) rfl in_X0_hasThrownTonight_0 (by decide) fl_X0_hasThrownTonight_28 rfl dX0_hasThrownTonight_1 ?_
  refine gx_iload_n (q := 1) C dX0_hasThrownTonight_4 rfl ?_
  refine gx_ishr C dX0_hasThrownTonight_5 ?_
  refine gx_iconst (v := 1) C dX0_hasThrownTonight_6 (by decide) ?_
  refine gx_iand C dX0_hasThrownTonight_7 ?_
  refine gx_if_eq (tgt := 15) C dX0_hasThrownTonight_8 (by decide) (fun c_8 => ?_) (fun c_8 => ?_)
  · skip
    refine gx_iconst (v := 0) C dX0_hasThrownTonight_15 (by decide) ?_
    exact gx_zretR C rfl hr (Or.inl rfl) dX0_hasThrownTonight_16 (congrArg Value.int (by simp [cThrown, bI, c_8]))
  · skip
    refine gx_iconst (v := 1) C dX0_hasThrownTonight_11 (by decide) ?_
    refine gx_goto (tgt := 16) C dX0_hasThrownTonight_12 (by decide) ?_
    exact gx_zretR C rfl hr (Or.inr rfl) dX0_hasThrownTonight_16 (congrArg Value.int (by simp [cThrown, bI, c_8]))
theorem kdN_X0_noteThrower : yX0_noteThrower.cls ≠ "java/lang/invoke/MethodHandle" ∧ yX0_noteThrower.cls ≠ "java/lang/invoke/VarHandle" ∧ (parseMethodDescriptor yX0_noteThrower.desc).map (fun d => d.parameters.length) = some 1 := by decide +kernel
theorem kdV_X0_noteThrower : yX0_noteThrower.cls = RX0 ∧ yX0_noteThrower.cls ≠ "java/lang/invoke/MethodHandle" ∧ yX0_noteThrower.cls ≠ "java/lang/invoke/VarHandle" ∧ (parseMethodDescriptor yX0_noteThrower.desc).map (fun d => d.parameters.length) = some 1 := ⟨rfl, kdN_X0_noteThrower⟩
theorem in_X0_noteThrower_0 : ∀ w ∈ u_ws RX0 TX0 3, w ∈ wsX0_noteThrower := by decide +kernel
theorem fl_X0_noteThrower_28 : Cond.fieldLink RX0 28 (TX0 2).1 (TX0 2).2.1 (TX0 2).2.2.1 ∈ wsX0_noteThrower := by decide +kernel
abbrev rmX0_noteThrower : Room := { frames := 0, cells := 0, slots := 0, locals := 0 }
set_option maxHeartbeats 4000000 in
set_option maxRecDepth 100000 in
theorem k_X0_noteThrower (l : Launch) {k : gK} {L : List Nat} {f : Nat → va_E} (hL : L.Nodup) {a : Nat → Nat} {w : WS} (hW : isWS k L f a w) (q : Int32) : kM l k L f yX0_noteThrower wsX0_noteThrower rmX0_noteThrower [.ref (a 1), .int q] (wP k L a f none (cNote w q)) := by
  refine kM_of (cc := cX0_noteThrower) (maxL := 2) (ret := none) (by decide) rfl (Nat.le_of_ble_eq_true rfl) ?_
  intro p e s m args below meth c C hr
  have hD : gD (fun q => q ∈ L) L := ⟨hL, fun _ h => h⟩
  refine gx_lv [(0, _), (1, _)] [0, 1] rfl ?_
  refine gx_aload_n (q := 0) C dX0_noteThrower_0 rfl ?_
  refine gx_dup C rfl dX0_noteThrower_1 ?_
  refine gx_get C (i := 2) (isWS_in hW 1 (Nat.le_of_ble_eq_true rfl)) (isWS_1 hW) rfl in_X0_noteThrower_0 (by decide) fl_X0_noteThrower_28 rfl dX0_noteThrower_2 ?_
  refine gx_iconst (v := 1) C dX0_noteThrower_5 (by decide) ?_
  refine gx_iload_n (q := 1) C dX0_noteThrower_6 rfl ?_
  refine gx_ishl C dX0_noteThrower_7 ?_
  refine gx_ior C dX0_noteThrower_8 ?_
  refine gx_put C hD (i := 2) (ty := .int) tyX0_ok nmX0 (isWS_in hW 1 (Nat.le_of_ble_eq_true rfl)) (isWS_1 hW) rfl in_X0_noteThrower_0 (by decide) fl_X0_noteThrower_28 rfl (by decide +kernel) rfl rfl (Nat.le_of_ble_eq_true rfl) rfl dX0_noteThrower_9 ?_
  refine gx_w1 hW (gFr_rf (f := f)) (fun f_1 hW_1 hF_1 => ?_)
  exact gx_vretW C hr hW_1 hF_1 dX0_noteThrower_12 (by rfl)
theorem kdN_X0_passOneNight : yX0_passOneNight.cls ≠ "java/lang/invoke/MethodHandle" ∧ yX0_passOneNight.cls ≠ "java/lang/invoke/VarHandle" ∧ (parseMethodDescriptor yX0_passOneNight.desc).map (fun d => d.parameters.length) = some 0 := by decide +kernel
theorem kdV_X0_passOneNight : yX0_passOneNight.cls = RX0 ∧ yX0_passOneNight.cls ≠ "java/lang/invoke/MethodHandle" ∧ yX0_passOneNight.cls ≠ "java/lang/invoke/VarHandle" ∧ (parseMethodDescriptor yX0_passOneNight.desc).map (fun d => d.parameters.length) = some 0 := ⟨rfl, kdN_X0_passOneNight⟩
theorem in_X0_passOneNight_0 : ∀ w ∈ u_ws RX0 TX0 3, w ∈ wsX0_passOneNight := by decide +kernel
theorem fl_X0_passOneNight_28 : Cond.fieldLink RX0 28 (TX0 2).1 (TX0 2).2.1 (TX0 2).2.2.1 ∈ wsX0_passOneNight := by decide +kernel
theorem fl_X0_passOneNight_24 : Cond.fieldLink RX0 24 (TX0 1).1 (TX0 1).2.1 (TX0 1).2.2.1 ∈ wsX0_passOneNight := by decide +kernel
abbrev rmX0_passOneNight : Room := { frames := 2, cells := 0, slots := 0, locals := 44 }
set_option maxHeartbeats 4000000 in
set_option maxRecDepth 100000 in
theorem k_X0_passOneNight (l : Launch) {k : gK} {L : List Nat} {f : Nat → va_E} (hL : L.Nodup) {a : Nat → Nat} {w : WS} (hW : isWS k L f a w)  : kM l k L f yX0_passOneNight wsX0_passOneNight rmX0_passOneNight [.ref (a 1)] (wP k L a f none (cPassOne w)) := by
  refine kM_of (cc := cX0_passOneNight) (maxL := 2) (ret := none) (by decide) rfl (Nat.le_of_ble_eq_true rfl) ?_
  intro p e s m args below meth c C hr
  have hD : gD (fun q => q ∈ L) L := ⟨hL, fun _ h => h⟩
  refine gx_lv [(0, _)] [0] rfl ?_
  refine gx_iconst (v := 0) C dX0_passOneNight_0 (by decide) ?_
  refine gx_istore_n C (i := 1) [(1, _), (0, _)] dX0_passOneNight_1 rfl (by decide) rfl ?_
  refine gx_loop (σ := Nat × (Nat → va_E)) (fun z => z.2) (fun z => [(0, .ref (a 1)), (1, .int (nI z.1))]) (fun z => z.1 ≤ 5 ∧ isWS k L z.2 a (cCrossN w z.1) ∧ gFr a 27 f z.2) (fun z => 5 - z.1) (0, _) [1, 0] rfl rfl ?_ ?_
  · exact ⟨Nat.zero_le _, hW, (gFr_rf (f := f))⟩
  intro ⟨i, fi⟩ ⟨hI, hWi, hFi⟩ ih
  try dsimp only at hI hWi hFi ih ⊢
  refine gx_iload_n (q := 1) C dX0_passOneNight_2 rfl ?_
  refine gx_iconst (v := 5) C dX0_passOneNight_3 (by decide) ?_
  refine gx_icmp_ge (tgt := 19) C dX0_passOneNight_4 (by decide) (fun c_4 => ?_) (fun c_4 => ?_)
  · skip
    have hb := (nI_leI (a := 5) (b := i) (by decide) (by omega)).mp c_4
    refine gx_aload_n (q := 0) C dX0_passOneNight_19 rfl ?_
    refine gx_iconst (v := 0) C dX0_passOneNight_20 (by decide) ?_
    refine gx_put C hD (i := 2) (ty := .int) tyX0_ok nmX0 (isWS_in hWi 1 (Nat.le_of_ble_eq_true rfl)) (isWS_1 hWi) rfl in_X0_passOneNight_0 (by decide) fl_X0_passOneNight_28 rfl (by decide +kernel) rfl rfl (Nat.le_of_ble_eq_true rfl) rfl dX0_passOneNight_21 ?_
    refine gx_w1 hWi hFi (fun f_1 hW_1 hF_1 => ?_)
    refine gx_aload_n (q := 0) C dX0_passOneNight_24 rfl ?_
    refine gx_dup C rfl dX0_passOneNight_25 ?_
    refine gx_get C (i := 1) (isWS_in hW_1 1 (Nat.le_of_ble_eq_true rfl)) (isWS_1 hW_1) rfl in_X0_passOneNight_0 (by decide) fl_X0_passOneNight_24 rfl dX0_passOneNight_26 ?_
    refine gx_iconst (v := 1) C dX0_passOneNight_29 (by decide) ?_
    refine gx_iadd C dX0_passOneNight_30 ?_
    refine gx_put C hD (i := 1) (ty := .int) tyX0_ok nmX0 (isWS_in hW_1 1 (Nat.le_of_ble_eq_true rfl)) (isWS_1 hW_1) rfl in_X0_passOneNight_0 (by decide) fl_X0_passOneNight_24 rfl (by decide +kernel) rfl rfl (Nat.le_of_ble_eq_true rfl) rfl dX0_passOneNight_31 ?_
    refine gx_w0 hW_1 hF_1 (fun f_2 hW_2 hF_2 => ?_)
    exact gx_vretW C hr hW_2 hF_2 dX0_passOneNight_34 (by rw [show i = 5 by omega]; rfl)
  · skip
    have hlt : i < 5 := Nat.lt_of_not_le (fun z => c_4 ((nI_leI (a := 5) (b := i) (by decide) (by omega)).mpr z))
    refine gx_aload_n (q := 0) C dX0_passOneNight_7 rfl ?_
    refine gx_iload_n (q := 1) C dX0_passOneNight_8 rfl ?_
    refine gx_iconst (v := 0) C dX0_passOneNight_9 (by decide) ?_
    refine gx_callWv C hD hFi (k_X0_cross l hL hWi _ _) (isWS_in hWi 1 (Nat.le_of_ble_eq_true rfl)) (isWS_1 hWi) rfl (cwV 2 C.2.2.2.2.1 gX0_passOneNight_X0_cross rfl rfl rfl kdV_X0_cross ⟨Nat.le_of_ble_eq_true rfl, Nat.le_of_ble_eq_true rfl⟩) rfl rfl (Nat.le_of_ble_eq_true rfl) ⟨Nat.le_of_ble_eq_true rfl, Nat.le_of_ble_eq_true rfl⟩ dX0_passOneNight_10 (fun f_3 hW_3 hF_3 => ?_)
    refine gx_iinc C (q := 1) (v := nI (i + 1)) [(1, _), (0, _)] dX0_passOneNight_13 rfl (nI_inc i) (by decide) rfl ?_
    refine gx_goto (tgt := 2) C dX0_passOneNight_16 (by decide) ?_
    exact gx_back [1, 0] (ih (i + 1, _) ⟨by omega, hW_3, hF_3⟩ (by show 5 - (i + 1) < 5 - i; omega)) rfl (by rfl)
