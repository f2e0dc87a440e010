theorem cDryN_n (w : WS) : ∀ i, (cDryN w i).2 = w.2
  | 0 => rfl
  | i + 1 => by
    show (cDry1 (cDryN w i) (nI i)).2 = w.2
    unfold cDry1
    split
    · exact cDryN_n w i
    · exact cDryN_n w i
theorem kdN_X3_has : yX3_has.cls ≠ "java/lang/invoke/MethodHandle" ∧ yX3_has.cls ≠ "java/lang/invoke/VarHandle" ∧ (parseMethodDescriptor yX3_has.desc).map (fun d => d.parameters.length) = some 1 := by decide +kernel
theorem kdV_X3_has : yX3_has.cls = RX3 ∧ yX3_has.cls ≠ "java/lang/invoke/MethodHandle" ∧ yX3_has.cls ≠ "java/lang/invoke/VarHandle" ∧ (parseMethodDescriptor yX3_has.desc).map (fun d => d.parameters.length) = some 1 := ⟨rfl, kdN_X3_has⟩
theorem in_X3_has_3 : ∀ w ∈ u_ws RX3 TX3 9, w ∈ wsX3_has := by decide +kernel
theorem fl_X3_has_45 : Cond.fieldLink RX3 45 (TX3 8).1 (TX3 8).2.1 (TX3 8).2.2.1 ∈ wsX3_has := by decide +kernel
abbrev rmX3_has : Room := { frames := 0, cells := 0, slots := 0, locals := 0 }
set_option maxHeartbeats 4000000 in
set_option maxRecDepth 100000 in
theorem k_X3_has (l : Launch) {k : gK} {L : List Nat} {f : Nat → va_E} {a : Nat → Nat} {w : WS} (hW : isWS k L f a w) (q : Int32) : kR l k L f yX3_has wsX3_has rmX3_has [.ref (a 2), .int q] (.int (bI (cHas w q))) := by
  refine kR_of (cc := cX3_has) (maxL := 2) (ret := (some .boolean)) (by decide) rfl (Nat.le_of_ble_eq_true rfl) ?_
  intro p e s m args below meth c C hr
  refine gx_lv [(0, _), (1, _)] [0, 1] rfl ?_
  refine gx_iload_n (q := 1) C dX3_has_0 rfl ?_
  refine gx_if_lt (tgt := 16) C dX3_has_1 (by decide) (fun c_1 => ?_) (fun c_1 => ?_)
  · skip
    refine gx_iconst (v := 0) C dX3_has_16 (by decide) ?_
    exact gx_zretR C rfl hr (Or.inl rfl) dX3_has_17 (congrArg Value.int (by simp [cHas, bI, c_1]))
  · skip
    refine gx_iload_n (q := 1) C dX3_has_4 rfl ?_
    refine gx_aload_n (q := 0) C dX3_has_5 rfl ?_
    refine gx_get C (i := 8) (isWS_in hW 2 (Nat.le_of_ble_eq_true rfl)) (isWS_2 hW) rfl in_X3_has_3 (by decide) fl_X3_has_45 rfl dX3_has_6 ?_
    refine gx_icmp_ge (tgt := 16) C dX3_has_9 (by decide) (fun c_9 => ?_) (fun c_9 => ?_)
    · skip
      refine gx_iconst (v := 0) C dX3_has_16 (by decide) ?_
      exact gx_zretR C rfl hr (Or.inl rfl) dX3_has_17 (congrArg Value.int (by simp [cHas, bI, c_1, c_9]))
    · skip
      refine gx_iconst (v := 1) C dX3_has_12 (by decide) ?_
      refine gx_goto (tgt := 17) C dX3_has_13 (by decide) ?_
      exact gx_zretR C rfl hr (Or.inr rfl) dX3_has_17 (congrArg Value.int (by simp [cHas, bI, c_1, c_9]))
theorem kdN_X3_isKind : yX3_isKind.cls ≠ "java/lang/invoke/MethodHandle" ∧ yX3_isKind.cls ≠ "java/lang/invoke/VarHandle" ∧ (parseMethodDescriptor yX3_isKind.desc).map (fun d => d.parameters.length) = some 2 := by decide +kernel
theorem kdV_X3_isKind : yX3_isKind.cls = RX3 ∧ yX3_isKind.cls ≠ "java/lang/invoke/MethodHandle" ∧ yX3_isKind.cls ≠ "java/lang/invoke/VarHandle" ∧ (parseMethodDescriptor yX3_isKind.desc).map (fun d => d.parameters.length) = some 2 := ⟨rfl, kdN_X3_isKind⟩
theorem in_X3_isKind_3 : ∀ w ∈ u_ws RX3 TX3 9, w ∈ wsX3_isKind := by decide +kernel
theorem fl_X3_isKind_26 : Cond.fieldLink RX3 26 (TX3 3).1 (TX3 3).2.1 (TX3 3).2.2.1 ∈ wsX3_isKind := by decide +kernel
abbrev rmX3_isKind : Room := { frames := 1, cells := 0, slots := 0, locals := 21 }
set_option maxHeartbeats 4000000 in
set_option maxRecDepth 100000 in
theorem k_X3_isKind (l : Launch) {k : gK} {L : List Nat} {f : Nat → va_E} {a : Nat → Nat} {w : WS} (hW : isWS k L f a w) (q : Int32) (kd : Int32) : kR l k L f yX3_isKind wsX3_isKind rmX3_isKind [.ref (a 2), .int q, .int kd] (.int (bI (cKind w q kd))) := by
  refine kR_of (cc := cX3_isKind) (maxL := 3) (ret := (some .boolean)) (by decide) rfl (Nat.le_of_ble_eq_true rfl) ?_
  intro p e s m args below meth c C hr
  refine gx_lv [(0, _), (1, _), (2, _)] [0, 1, 2] rfl ?_
  refine gx_aload_n (q := 0) C dX3_isKind_0 rfl ?_
  refine gx_get C (i := 3) (isWS_in hW 2 (Nat.le_of_ble_eq_true rfl)) (isWS_2 hW) rfl in_X3_isKind_3 (by decide) fl_X3_isKind_26 rfl dX3_isKind_1 ?_
  refine gx_iload_n (q := 1) C dX3_isKind_4 rfl ?_
  refine gx_callR C (kw_X4_at l hW 5 (Nat.le_of_ble_eq_true rfl) 20 rfl _) (isWS_in hW 13 (Nat.le_of_ble_eq_true rfl)) (isWS_row hW 5 (Nat.le_of_ble_eq_true rfl)) rfl (cwV 1 C.2.2.2.2.1 gX3_isKind_X4_at rfl rfl rfl kdV_X4_at ⟨Nat.le_of_ble_eq_true rfl, Nat.le_of_ble_eq_true rfl⟩) rfl rfl (Nat.le_of_ble_eq_true rfl) ⟨Nat.le_of_ble_eq_true rfl, Nat.le_of_ble_eq_true rfl⟩ dX3_isKind_5 ?_
  refine gx_iload_n (q := 2) C dX3_isKind_8 rfl ?_
  refine gx_icmp_ne (tgt := 16) C dX3_isKind_9 (by decide) (fun c_9 => ?_) (fun c_9 => ?_)
  · skip
    refine gx_iconst (v := 0) C dX3_isKind_16 (by decide) ?_
    exact gx_zretR C rfl hr (Or.inl rfl) dX3_isKind_17 (congrArg Value.int (by exact (congrArg bI (decide_eq_false c_9)).symm))
  · skip
    refine gx_iconst (v := 1) C dX3_isKind_12 (by decide) ?_
    refine gx_goto (tgt := 17) C dX3_isKind_13 (by decide) ?_
    exact gx_zretR C rfl hr (Or.inr rfl) dX3_isKind_17 (congrArg Value.int (by exact (congrArg bI (decide_eq_true c_9)).symm))
theorem kdN_X3_isOnRack : yX3_isOnRack.cls ≠ "java/lang/invoke/MethodHandle" ∧ yX3_isOnRack.cls ≠ "java/lang/invoke/VarHandle" ∧ (parseMethodDescriptor yX3_isOnRack.desc).map (fun d => d.parameters.length) = some 1 := by decide +kernel
theorem kdV_X3_isOnRack : yX3_isOnRack.cls = RX3 ∧ yX3_isOnRack.cls ≠ "java/lang/invoke/MethodHandle" ∧ yX3_isOnRack.cls ≠ "java/lang/invoke/VarHandle" ∧ (parseMethodDescriptor yX3_isOnRack.desc).map (fun d => d.parameters.length) = some 1 := ⟨rfl, kdN_X3_isOnRack⟩
theorem in_X3_isOnRack_3 : ∀ w ∈ u_ws RX3 TX3 9, w ∈ wsX3_isOnRack := by decide +kernel
theorem fl_X3_isOnRack_29 : Cond.fieldLink RX3 29 (TX3 4).1 (TX3 4).2.1 (TX3 4).2.2.1 ∈ wsX3_isOnRack := by decide +kernel
abbrev rmX3_isOnRack : Room := { frames := 1, cells := 0, slots := 0, locals := 21 }
set_option maxHeartbeats 4000000 in
set_option maxRecDepth 100000 in
theorem k_X3_isOnRack (l : Launch) {k : gK} {L : List Nat} {f : Nat → va_E} {a : Nat → Nat} {w : WS} (hW : isWS k L f a w) (q : Int32) : kR l k L f yX3_isOnRack wsX3_isOnRack rmX3_isOnRack [.ref (a 2), .int q] (.int (bI (cRack w q))) := by
  refine kR_of (cc := cX3_isOnRack) (maxL := 2) (ret := (some .boolean)) (by decide) rfl (Nat.le_of_ble_eq_true rfl) ?_
  intro p e s m args below meth c C hr
  refine gx_lv [(0, _), (1, _)] [0, 1] rfl ?_
  refine gx_aload_n (q := 0) C dX3_isOnRack_0 rfl ?_
  refine gx_get C (i := 4) (isWS_in hW 2 (Nat.le_of_ble_eq_true rfl)) (isWS_2 hW) rfl in_X3_isOnRack_3 (by decide) fl_X3_isOnRack_29 rfl dX3_isOnRack_1 ?_
  refine gx_iload_n (q := 1) C dX3_isOnRack_4 rfl ?_
  refine gx_callR C (kw_X4_at l hW 6 (Nat.le_of_ble_eq_true rfl) 20 rfl _) (isWS_in hW 15 (Nat.le_of_ble_eq_true rfl)) (isWS_row hW 6 (Nat.le_of_ble_eq_true rfl)) rfl (cwV 1 C.2.2.2.2.1 gX3_isOnRack_X4_at rfl rfl rfl kdV_X4_at ⟨Nat.le_of_ble_eq_true rfl, Nat.le_of_ble_eq_true rfl⟩) rfl rfl (Nat.le_of_ble_eq_true rfl) ⟨Nat.le_of_ble_eq_true rfl, Nat.le_of_ble_eq_true rfl⟩ dX3_isOnRack_5 ?_
  refine gx_bipush (v := 24) C dX3_isOnRack_8 (by decide) ?_
  refine gx_icmp_ge (tgt := 17) C dX3_isOnRack_10 (by decide) (fun c_10 => ?_) (fun c_10 => ?_)
  · skip
    refine gx_iconst (v := 0) C dX3_isOnRack_17 (by decide) ?_
    exact gx_zretR C rfl hr (Or.inl rfl) dX3_isOnRack_18 (congrArg Value.int (by exact (congrArg bI (decide_eq_false (not_not_intro c_10))).symm))
  · skip
    refine gx_iconst (v := 1) C dX3_isOnRack_13 (by decide) ?_
    refine gx_goto (tgt := 18) C dX3_isOnRack_14 (by decide) ?_
    exact gx_zretR C rfl hr (Or.inr rfl) dX3_isOnRack_18 (congrArg Value.int (by exact (congrArg bI (decide_eq_true c_10)).symm))
theorem kdN_X3_isBesideKiln : yX3_isBesideKiln.cls ≠ "java/lang/invoke/MethodHandle" ∧ yX3_isBesideKiln.cls ≠ "java/lang/invoke/VarHandle" ∧ (parseMethodDescriptor yX3_isBesideKiln.desc).map (fun d => d.parameters.length) = some 1 := by decide +kernel
theorem kdV_X3_isBesideKiln : yX3_isBesideKiln.cls = RX3 ∧ yX3_isBesideKiln.cls ≠ "java/lang/invoke/MethodHandle" ∧ yX3_isBesideKiln.cls ≠ "java/lang/invoke/VarHandle" ∧ (parseMethodDescriptor yX3_isBesideKiln.desc).map (fun d => d.parameters.length) = some 1 := ⟨rfl, kdN_X3_isBesideKiln⟩
theorem in_X3_isBesideKiln_3 : ∀ w ∈ u_ws RX3 TX3 9, w ∈ wsX3_isBesideKiln := by decide +kernel
theorem fl_X3_isBesideKiln_29 : Cond.fieldLink RX3 29 (TX3 4).1 (TX3 4).2.1 (TX3 4).2.2.1 ∈ wsX3_isBesideKiln := by decide +kernel
abbrev rmX3_isBesideKiln : Room := { frames := 1, cells := 0, slots := 0, locals := 21 }
set_option maxHeartbeats 4000000 in
set_option maxRecDepth 100000 in
theorem k_X3_isBesideKiln (l : Launch) {k : gK} {L : List Nat} {f : Nat → va_E} {a : Nat → Nat} {w : WS} (hW : isWS k L f a w) (q : Int32) : kR l k L f yX3_isBesideKiln wsX3_isBesideKiln rmX3_isBesideKiln [.ref (a 2), .int q] (.int (bI (cBeside w q))) := by
  refine kR_of (cc := cX3_isBesideKiln) (maxL := 2) (ret := (some .boolean)) (by decide) rfl (Nat.le_of_ble_eq_true rfl) ?_
  intro p e s m args below meth c C hr
  refine gx_lv [(0, _), (1, _)] [0, 1] rfl ?_
  refine gx_aload_n (q := 0) C dX3_isBesideKiln_0 rfl ?_
  refine gx_get C (i := 4) (isWS_in hW 2 (Nat.le_of_ble_eq_true rfl)) (isWS_2 hW) rfl in_X3_isBesideKiln_3 (by decide) fl_X3_isBesideKiln_29 rfl dX3_isBesideKiln_1 ?_
  refine gx_iload_n (q := 1) C dX3_isBesideKiln_4 rfl ?_
  refine gx_callR C (kw_X4_at l hW 6 (Nat.le_of_ble_eq_true rfl) 20 rfl _) (isWS_in hW 15 (Nat.le_of_ble_eq_true rfl)) (isWS_row hW 6 (Nat.le_of_ble_eq_true rfl)) rfl (cwV 1 C.2.2.2.2.1 gX3_isBesideKiln_X4_at rfl rfl rfl kdV_X4_at ⟨Nat.le_of_ble_eq_true rfl, Nat.le_of_ble_eq_true rfl⟩) rfl rfl (Nat.le_of_ble_eq_true rfl) ⟨Nat.le_of_ble_eq_true rfl, Nat.le_of_ble_eq_true rfl⟩ dX3_isBesideKiln_5 ?_
  refine gx_bipush (v := 8) C dX3_isBesideKiln_8 (by decide) ?_
  refine gx_icmp_ge (tgt := 17) C dX3_isBesideKiln_10 (by decide) (fun c_10 => ?_) (fun c_10 => ?_)
  · skip
    refine gx_iconst (v := 0) C dX3_isBesideKiln_17 (by decide) ?_
    exact gx_zretR C rfl hr (Or.inl rfl) dX3_isBesideKiln_18 (congrArg Value.int (by exact (congrArg bI (decide_eq_false (not_not_intro c_10))).symm))
  · skip
    refine gx_iconst (v := 1) C dX3_isBesideKiln_13 (by decide) ?_
    refine gx_goto (tgt := 18) C dX3_isBesideKiln_14 (by decide) ?_
    exact gx_zretR C rfl hr (Or.inr rfl) dX3_isBesideKiln_18 (congrArg Value.int (by exact (congrArg bI (decide_eq_true c_10)).symm))
theorem kdN_X3_isInKiln : yX3_isInKiln.cls ≠ "java/lang/invoke/MethodHandle" ∧ yX3_isInKiln.cls ≠ "java/lang/invoke/VarHandle" ∧ (parseMethodDescriptor yX3_isInKiln.desc).map (fun d => d.parameters.length) = some 1 := by decide +kernel
theorem kdV_X3_isInKiln : yX3_isInKiln.cls = RX3 ∧ yX3_isInKiln.cls ≠ "java/lang/invoke/MethodHandle" ∧ yX3_isInKiln.cls ≠ "java/lang/invoke/VarHandle" ∧ (parseMethodDescriptor yX3_isInKiln.desc).map (fun d => d.parameters.length) = some 1 := ⟨rfl, kdN_X3_isInKiln⟩
theorem in_X3_isInKiln_3 : ∀ w ∈ u_ws RX3 TX3 9, w ∈ wsX3_isInKiln := by decide +kernel
theorem fl_X3_isInKiln_29 : Cond.fieldLink RX3 29 (TX3 4).1 (TX3 4).2.1 (TX3 4).2.2.1 ∈ wsX3_isInKiln := by decide +kernel
abbrev rmX3_isInKiln : Room := { frames := 1, cells := 0, slots := 0, locals := 21 }
set_option maxHeartbeats 4000000 in
set_option maxRecDepth 100000 in
theorem k_X3_isInKiln (l : Launch) {k : gK} {L : List Nat} {f : Nat → va_E} {a : Nat → Nat} {w : WS} (hW : isWS k L f a w) (q : Int32) : kR l k L f yX3_isInKiln wsX3_isInKiln rmX3_isInKiln [.ref (a 2), .int q] (.int (bI (cKiln w q))) := by
  refine kR_of (cc := cX3_isInKiln) (maxL := 2) (ret := (some .boolean)) (by decide) rfl (Nat.le_of_ble_eq_true rfl) ?_
  intro p e s m args below meth c C hr
  refine gx_lv [(0, _), (1, _)] [0, 1] rfl ?_
  refine gx_aload_n (q := 0) C dX3_isInKiln_0 rfl ?_
  refine gx_get C (i := 4) (isWS_in hW 2 (Nat.le_of_ble_eq_true rfl)) (isWS_2 hW) rfl in_X3_isInKiln_3 (by decide) fl_X3_isInKiln_29 rfl dX3_isInKiln_1 ?_
  refine gx_iload_n (q := 1) C dX3_isInKiln_4 rfl ?_
  refine gx_callR C (kw_X4_at l hW 6 (Nat.le_of_ble_eq_true rfl) 20 rfl _) (isWS_in hW 15 (Nat.le_of_ble_eq_true rfl)) (isWS_row hW 6 (Nat.le_of_ble_eq_true rfl)) rfl (cwV 1 C.2.2.2.2.1 gX3_isInKiln_X4_at rfl rfl rfl kdV_X4_at ⟨Nat.le_of_ble_eq_true rfl, Nat.le_of_ble_eq_true rfl⟩) rfl rfl (Nat.le_of_ble_eq_true rfl) ⟨Nat.le_of_ble_eq_true rfl, Nat.le_of_ble_eq_true rfl⟩ dX3_isInKiln_5 ?_
  refine gx_bipush (v := 24) C dX3_isInKiln_8 (by decide) ?_
  refine gx_icmp_ne (tgt := 17) C dX3_isInKiln_10 (by decide) (fun c_10 => ?_) (fun c_10 => ?_)
  · skip
    refine gx_iconst (v := 0) C dX3_isInKiln_17 (by decide) ?_
    exact gx_zretR C rfl hr (Or.inl rfl) dX3_isInKiln_18 (congrArg Value.int (by exact (congrArg bI (decide_eq_false c_10)).symm))
  · skip
    refine gx_iconst (v := 1) C dX3_isInKiln_13 (by decide) ?_
    refine gx_goto (tgt := 18) C dX3_isInKiln_14 (by decide) ?_
    exact gx_zretR C rfl hr (Or.inr rfl) dX3_isInKiln_18 (congrArg Value.int (by exact (congrArg bI (decide_eq_true c_10)).symm))
theorem kdN_X3_placesTaken : yX3_placesTaken.cls ≠ "java/lang/invoke/MethodHandle" ∧ yX3_placesTaken.cls ≠ "java/lang/invoke/VarHandle" ∧ (parseMethodDescriptor yX3_placesTaken.desc).map (fun d => d.parameters.length) = some 0 := by decide +kernel
theorem kdV_X3_placesTaken : yX3_placesTaken.cls = RX3 ∧ yX3_placesTaken.cls ≠ "java/lang/invoke/MethodHandle" ∧ yX3_placesTaken.cls ≠ "java/lang/invoke/VarHandle" ∧ (parseMethodDescriptor yX3_placesTaken.desc).map (fun d => d.parameters.length) = some 0 := ⟨rfl, kdN_X3_placesTaken⟩
theorem in_X3_placesTaken_3 : ∀ w ∈ u_ws RX3 TX3 9, w ∈ wsX3_placesTaken := by decide +kernel
theorem fl_X3_placesTaken_45 : Cond.fieldLink RX3 45 (TX3 8).1 (TX3 8).2.1 (TX3 8).2.2.1 ∈ wsX3_placesTaken := by decide +kernel
theorem fl_X3_placesTaken_29 : Cond.fieldLink RX3 29 (TX3 4).1 (TX3 4).2.1 (TX3 4).2.2.1 ∈ wsX3_placesTaken := by decide +kernel
abbrev rmX3_placesTaken : Room := { frames := 1, cells := 0, slots := 0, locals := 21 }
set_option maxHeartbeats 4000000 in
set_option maxRecDepth 100000 in
theorem k_X3_placesTaken (l : Launch) {k : gK} {L : List Nat} {f : Nat → va_E} {a : Nat → Nat} {w : WS} (hW : isWS k L f a w) (hN : wOK w)  : kR l k L f yX3_placesTaken wsX3_placesTaken rmX3_placesTaken [.ref (a 2)] (.int (cTaken w)) := by
  refine kR_of (cc := cX3_placesTaken) (maxL := 4) (ret := (some .int)) (by decide) rfl (Nat.le_of_ble_eq_true rfl) ?_
  intro p e s m args below meth c C hr
  refine gx_lv [(0, _)] [0] rfl ?_
  refine gx_iconst (v := 0) C dX3_placesTaken_0 (by decide) ?_
  refine gx_istore_n C (i := 1) [(1, _), (0, _)] dX3_placesTaken_1 rfl (by decide) rfl ?_
  refine gx_iconst (v := 0) C dX3_placesTaken_2 (by decide) ?_
  refine gx_istore_n C (i := 2) [(2, _), (1, _), (0, _)] dX3_placesTaken_3 rfl (by decide) rfl ?_
  refine gx_loop (σ := Nat) (fun i => f) (fun i => [(0, .ref (a 2)), (1, .int (cTk w i)), (2, .int (nI i))]) (fun i => i ≤ wN w) (fun i => wN w - i) 0 [2, 1, 0] rfl rfl ?_ ?_
  · exact Nat.zero_le _
  intro i hI ih
  try dsimp only at hI ih ⊢
  have h20 := hN.2
  refine gx_iload_n (q := 2) C dX3_placesTaken_4 rfl ?_
  refine gx_aload_n (q := 0) C dX3_placesTaken_5 rfl ?_
  refine gx_get C (i := 8) (isWS_in hW 2 (Nat.le_of_ble_eq_true rfl)) (isWS_2 hW) rfl in_X3_placesTaken_3 (by decide) fl_X3_placesTaken_45 rfl dX3_placesTaken_6 ?_
  refine gx_top (nI (wN w)) hN.1 ?_
  refine gx_icmp_ge (tgt := 39) C dX3_placesTaken_9 (by decide) (fun c_9 => ?_) (fun c_9 => ?_)
  · skip
    have hb := (nI_leI (by omega) (by omega)).mp c_9
    refine gx_iload_n (q := 1) C dX3_placesTaken_39 rfl ?_
    exact gx_iretR C rfl hr dX3_placesTaken_40 (congrArg Value.int (by rw [show i = wN w by omega]; rfl))
  · skip
    have hlt : i < wN w := Nat.lt_of_not_le (fun z => c_9 ((nI_leI (by omega) (by omega)).mpr z))
    refine gx_aload_n (q := 0) C dX3_placesTaken_12 rfl ?_
    refine gx_get C (i := 4) (isWS_in hW 2 (Nat.le_of_ble_eq_true rfl)) (isWS_2 hW) rfl in_X3_placesTaken_3 (by decide) fl_X3_placesTaken_29 rfl dX3_placesTaken_13 ?_
    refine gx_iload_n (q := 2) C dX3_placesTaken_16 rfl ?_
    refine gx_callR C (kw_X4_at l hW 6 (Nat.le_of_ble_eq_true rfl) 20 rfl _) (isWS_in hW 15 (Nat.le_of_ble_eq_true rfl)) (isWS_row hW 6 (Nat.le_of_ble_eq_true rfl)) rfl (cwV 1 C.2.2.2.2.1 gX3_placesTaken_X4_at rfl rfl rfl kdV_X4_at ⟨Nat.le_of_ble_eq_true rfl, Nat.le_of_ble_eq_true rfl⟩) rfl rfl (Nat.le_of_ble_eq_true rfl) ⟨Nat.le_of_ble_eq_true rfl, Nat.le_of_ble_eq_true rfl⟩ dX3_placesTaken_17 ?_
    refine gx_istore_n C (i := 3) [(3, _), (0, _), (1, _), (2, _)] dX3_placesTaken_20 rfl (by decide) rfl ?_
    refine gx_iload_n (q := 0) C dX3_placesTaken_21 rfl ?_
    refine gx_bipush (v := 24) C dX3_placesTaken_22 (by decide) ?_
    refine gx_icmp_ge (tgt := 33) C dX3_placesTaken_24 (by decide) (fun c_24 => ?_) (fun c_24 => ?_)
    · skip
      refine gx_iinc C (q := 3) (v := nI (i + 1)) [(2, _), (3, _), (0, _), (1, _)] dX3_placesTaken_33 rfl (nI_inc i) (by decide) rfl ?_
      refine gx_goto (tgt := 4) C dX3_placesTaken_36 (by decide) ?_
      exact gx_back [2, 3, 0] (ih (i + 1) (by omega) (by omega)) rfl (by rw [show cTk w (i + 1) = _ from if_pos c_24]; rfl)
    · skip
      refine gx_iload_n (q := 2) C dX3_placesTaken_27 rfl ?_
      refine gx_iconst (v := 1) C dX3_placesTaken_28 (by decide) ?_
      refine gx_iload_n (q := 0) C dX3_placesTaken_29 rfl ?_
      refine gx_ishl C dX3_placesTaken_30 ?_
      refine gx_ior C dX3_placesTaken_31 ?_
      refine gx_istore_n C (i := 1) [(1, _), (3, _), (0, _), (2, _)] dX3_placesTaken_32 rfl (by decide) rfl ?_
      refine gx_iinc C (q := 3) (v := nI (i + 1)) [(2, _), (1, _), (3, _), (0, _)] dX3_placesTaken_33 rfl (nI_inc i) (by decide) rfl ?_
      refine gx_goto (tgt := 4) C dX3_placesTaken_36 (by decide) ?_
      exact gx_back [3, 1, 0] (ih (i + 1) (by omega) (by omega)) rfl (by rw [show cTk w (i + 1) = _ from if_neg c_24]; rfl)
theorem kdN_J6_bitCount_0f7a4 : yJ6_bitCount_0f7a4.cls ≠ "java/lang/invoke/MethodHandle" ∧ yJ6_bitCount_0f7a4.cls ≠ "java/lang/invoke/VarHandle" ∧ (parseMethodDescriptor yJ6_bitCount_0f7a4.desc).map (fun d => d.parameters.length) = some 1 := by decide +kernel
theorem wd_J6_bitCount_0f7a4_k265 : Cond.constant RJ6 265 (1431655765) ∈ wsJ6_bitCount_0f7a4 := by decide +kernel
theorem wd_J6_bitCount_0f7a4_k266 : Cond.constant RJ6 266 (858993459) ∈ wsJ6_bitCount_0f7a4 := by decide +kernel
theorem wd_J6_bitCount_0f7a4_k267 : Cond.constant RJ6 267 (252645135) ∈ wsJ6_bitCount_0f7a4 := by decide +kernel
abbrev rmJ6_bitCount_0f7a4 : Room := { frames := 0, cells := 0, slots := 0, locals := 0 }
set_option maxHeartbeats 4000000 in
set_option maxRecDepth 100000 in
theorem k_J6_bitCount_0f7a4 (l : Launch) {k : gK} {L : List Nat} {f : Nat → va_E}  (x : Int32) : kR l k L f yJ6_bitCount_0f7a4 wsJ6_bitCount_0f7a4 rmJ6_bitCount_0f7a4 [.int x] (.int (bitC x)) := by
  refine kR_of (cc := cJ6_bitCount_0f7a4) (maxL := 1) (ret := (some .int)) (by decide) rfl (Nat.le_of_ble_eq_true rfl) ?_
  intro p e s m args below meth c C hr
  refine gx_lv [(0, _)] [0] rfl ?_
  refine gx_iload_n (q := 0) C dJ6_bitCount_0f7a4_0 rfl ?_
  refine gx_iload_n (q := 0) C dJ6_bitCount_0f7a4_1 rfl ?_
  refine gx_iconst (v := 1) C dJ6_bitCount_0f7a4_2 (by decide) ?_
  refine gx_iushr C dJ6_bitCount_0f7a4_3 ?_
  refine gx_ldcw C wd_J6_bitCount_0f7a4_k265 dJ6_bitCount_0f7a4_4 ?_
  refine gx_iand C dJ6_bitCount_0f7a4_7 ?_
  refine gx_isub C dJ6_bitCount_0f7a4_8 ?_
  refine gx_istore_n C (i := 0) [(0, _)] dJ6_bitCount_0f7a4_9 rfl (by decide) rfl ?_
  refine gx_iload_n (q := 0) C dJ6_bitCount_0f7a4_10 rfl ?_
  refine gx_ldcw C wd_J6_bitCount_0f7a4_k266 dJ6_bitCount_0f7a4_11 ?_
  refine gx_iand C dJ6_bitCount_0f7a4_14 ?_
  refine gx_iload_n (q := 0) C dJ6_bitCount_0f7a4_15 rfl ?_
  refine gx_iconst (v := 2) C dJ6_bitCount_0f7a4_16 (by decide) ?_
  refine gx_iushr C dJ6_bitCount_0f7a4_17 ?_
  refine gx_ldcw C wd_J6_bitCount_0f7a4_k266 dJ6_bitCount_0f7a4_18 ?_
  refine gx_iand C dJ6_bitCount_0f7a4_21 ?_
  refine gx_iadd C dJ6_bitCount_0f7a4_22 ?_
  refine gx_istore_n C (i := 0) [(0, _)] dJ6_bitCount_0f7a4_23 rfl (by decide) rfl ?_
  refine gx_iload_n (q := 0) C dJ6_bitCount_0f7a4_24 rfl ?_
  refine gx_iload_n (q := 0) C dJ6_bitCount_0f7a4_25 rfl ?_
  refine gx_iconst (v := 4) C dJ6_bitCount_0f7a4_26 (by decide) ?_
  refine gx_iushr C dJ6_bitCount_0f7a4_27 ?_
  refine gx_iadd C dJ6_bitCount_0f7a4_28 ?_
  refine gx_ldcw C wd_J6_bitCount_0f7a4_k267 dJ6_bitCount_0f7a4_29 ?_
  refine gx_iand C dJ6_bitCount_0f7a4_32 ?_
  refine gx_istore_n C (i := 0) [(0, _)] dJ6_bitCount_0f7a4_33 rfl (by decide) rfl ?_
  refine gx_iload_n (q := 0) C dJ6_bitCount_0f7a4_34 rfl ?_
  refine gx_iload_n (q := 0) C dJ6_bitCount_0f7a4_35 rfl ?_
  refine gx_bipush (v := 8) C dJ6_bitCount_0f7a4_36 (by decide) ?_
  refine gx_iushr C dJ6_bitCount_0f7a4_38 ?_
  refine gx_iadd C dJ6_bitCount_0f7a4_39 ?_
  refine gx_istore_n C (i := 0) [(0, _)] dJ6_bitCount_0f7a4_40 rfl (by decide) rfl ?_
  refine gx_iload_n (q := 0) C dJ6_bitCount_0f7a4_41 rfl ?_
  refine gx_iload_n (q := 0) C dJ6_bitCount_0f7a4_42 rfl ?_
  refine gx_bipush (v := 16) C dJ6_bitCount_0f7a4_43 (by decide) ?_
  refine gx_iushr C dJ6_bitCount_0f7a4_45 ?_
  refine gx_iadd C dJ6_bitCount_0f7a4_46 ?_
  refine gx_istore_n C (i := 0) [(0, _)] dJ6_bitCount_0f7a4_47 rfl (by decide) rfl ?_
  refine gx_iload_n (q := 0) C dJ6_bitCount_0f7a4_48 rfl ?_
  refine gx_bipush (v := 63) C dJ6_bitCount_0f7a4_49 (by decide) ?_
  refine gx_iand C dJ6_bitCount_0f7a4_51 ?_
  exact gx_iretR C rfl hr dJ6_bitCount_0f7a4_52 (congrArg Value.int (by rfl))
theorem kdN_X3_freePlaces : yX3_freePlaces.cls ≠ "java/lang/invoke/MethodHandle" ∧ yX3_freePlaces.cls ≠ "java/lang/invoke/VarHandle" ∧ (parseMethodDescriptor yX3_freePlaces.desc).map (fun d => d.parameters.length) = some 0 := by decide +kernel
theorem kdV_X3_freePlaces : yX3_freePlaces.cls = RX3 ∧ yX3_freePlaces.cls ≠ "java/lang/invoke/MethodHandle" ∧ yX3_freePlaces.cls ≠ "java/lang/invoke/VarHandle" ∧ (parseMethodDescriptor yX3_freePlaces.desc).map (fun d => d.parameters.length) = some 0 := ⟨rfl, kdN_X3_freePlaces⟩
abbrev rmX3_freePlaces : Room := { frames := 2, cells := 0, slots := 0, locals := 44 }
set_option maxHeartbeats 4000000 in
set_option maxRecDepth 100000 in
theorem k_X3_freePlaces (l : Launch) {k : gK} {L : List Nat} {f : Nat → va_E} {a : Nat → Nat} {w : WS} (hW : isWS k L f a w) (hN : wOK w)  : kR l k L f yX3_freePlaces wsX3_freePlaces rmX3_freePlaces [.ref (a 2)] (.int (cFree w)) := by
  refine kR_of (cc := cX3_freePlaces) (maxL := 1) (ret := (some .int)) (by decide) rfl (Nat.le_of_ble_eq_true rfl) ?_
  intro p e s m args below meth c C hr
  refine gx_lv [(0, _)] [0] rfl ?_
  refine gx_bipush (v := 24) C dX3_freePlaces_0 (by decide) ?_
  refine gx_aload_n (q := 0) C dX3_freePlaces_2 rfl ?_
  refine gx_callR C (k_X3_placesTaken l hW hN ) (isWS_in hW 2 (Nat.le_of_ble_eq_true rfl)) (isWS_2 hW) rfl (cwV 0 C.2.2.2.2.1 gX3_freePlaces_X3_placesTaken rfl rfl rfl kdV_X3_placesTaken ⟨Nat.le_of_ble_eq_true rfl, Nat.le_of_ble_eq_true rfl⟩) rfl rfl (Nat.le_of_ble_eq_true rfl) ⟨Nat.le_of_ble_eq_true rfl, Nat.le_of_ble_eq_true rfl⟩ dX3_freePlaces_3 ?_
  refine gx_callRS C (k_J6_bitCount_0f7a4 l (k := k) (L := L) _) (va_cwS 1 C.2.2.2.2.1 gX3_freePlaces_J6_bitCount_0f7a4 rfl rfl rfl kdN_J6_bitCount_0f7a4 ⟨Nat.le_of_ble_eq_true rfl, Nat.le_of_ble_eq_true rfl⟩) rfl rfl (Nat.le_of_ble_eq_true rfl) ⟨Nat.le_of_ble_eq_true rfl, Nat.le_of_ble_eq_true rfl⟩ dX3_freePlaces_6 ?_
  refine gx_isub C dX3_freePlaces_9 ?_
  exact gx_iretR C rfl hr dX3_freePlaces_10 (congrArg Value.int (by rfl))
theorem kdN_X3_putOnRack : yX3_putOnRack.cls ≠ "java/lang/invoke/MethodHandle" ∧ yX3_putOnRack.cls ≠ "java/lang/invoke/VarHandle" ∧ (parseMethodDescriptor yX3_putOnRack.desc).map (fun d => d.parameters.length) = some 1 := by decide +kernel
theorem kdV_X3_putOnRack : yX3_putOnRack.cls = RX3 ∧ yX3_putOnRack.cls ≠ "java/lang/invoke/MethodHandle" ∧ yX3_putOnRack.cls ≠ "java/lang/invoke/VarHandle" ∧ (parseMethodDescriptor yX3_putOnRack.desc).map (fun d => d.parameters.length) = some 1 := ⟨rfl, kdN_X3_putOnRack⟩
theorem in_X3_putOnRack_3 : ∀ w ∈ u_ws RX3 TX3 9, w ∈ wsX3_putOnRack := by decide +kernel
theorem fl_X3_putOnRack_29 : Cond.fieldLink RX3 29 (TX3 4).1 (TX3 4).2.1 (TX3 4).2.2.1 ∈ wsX3_putOnRack := by decide +kernel
abbrev rmX3_putOnRack : Room := { frames := 2, cells := 0, slots := 0, locals := 44 }
set_option maxHeartbeats 4000000 in
set_option maxRecDepth 100000 in
theorem k_X3_putOnRack (l : Launch) {k : gK} {L : List Nat} {f : Nat → va_E} (hL : L.Nodup) {a : Nat → Nat} {w : WS} (hW : isWS k L f a w) (hN : wOK w) (q : Int32) : kM l k L f yX3_putOnRack wsX3_putOnRack rmX3_putOnRack [.ref (a 2), .int q] (wP k L a f none (cPutRack w q)) := by
  refine kM_of (cc := cX3_putOnRack) (maxL := 4) (ret := none) (by decide) rfl (Nat.le_of_ble_eq_true rfl) ?_
  intro p e s m args below meth c C hr
  have hD : gD (fun q => q ∈ L) L := ⟨hL, fun _ h => h⟩
  refine gx_lv [(0, _), (1, _)] [0, 1] rfl ?_
  refine gx_aload_n (q := 0) C dX3_putOnRack_0 rfl ?_
  refine gx_callR C (k_X3_placesTaken l hW hN ) (isWS_in hW 2 (Nat.le_of_ble_eq_true rfl)) (isWS_2 hW) rfl (cwV 0 C.2.2.2.2.1 gX3_putOnRack_X3_placesTaken rfl rfl rfl kdV_X3_placesTaken ⟨Nat.le_of_ble_eq_true rfl, Nat.le_of_ble_eq_true rfl⟩) rfl rfl (Nat.le_of_ble_eq_true rfl) ⟨Nat.le_of_ble_eq_true rfl, Nat.le_of_ble_eq_true rfl⟩ dX3_putOnRack_1 ?_
  refine gx_istore_n C (i := 2) [(2, _), (0, _), (1, _)] dX3_putOnRack_4 rfl (by decide) rfl ?_
  refine gx_iconst (v := 0) C dX3_putOnRack_5 (by decide) ?_
  refine gx_istore_n C (i := 3) [(3, _), (2, _), (0, _), (1, _)] dX3_putOnRack_6 rfl (by decide) rfl ?_
  refine gx_loop (σ := Nat) (fun i => f) (fun i => [(0, .ref (a 2)), (1, .int q), (2, .int (cTaken w)), (3, .int (nI i))]) (fun i => i ≤ 23 ∧ fnN (cPlaceP (cTaken w)) i (23 - i) = fnN (cPlaceP (cTaken w)) 0 23) (fun i => 23 - i) 0 [2, 3, 1, 0] rfl rfl ?_ ?_
  · exact ⟨by decide, rfl⟩
  intro i hI ih
  try dsimp only at hI ih ⊢
  refine gx_iload_n (q := 3) C dX3_putOnRack_7 rfl ?_
  refine gx_bipush (v := 23) C dX3_putOnRack_8 (by decide) ?_
  refine gx_icmp_ge (tgt := 27) C dX3_putOnRack_10 (by decide) (fun c_10 => ?_) (fun c_10 => ?_)
  · skip
    have hb := (nI_leI (a := 23) (b := i) (by decide) (by omega)).mp c_10
    have hpl : fnN (cPlaceP (cTaken w)) 0 23 = i := by rw [← hI.2, show 23 - i = 0 by omega]; rfl
    refine gx_aload_n (q := 0) C dX3_putOnRack_27 rfl ?_
    refine gx_get C (i := 4) (isWS_in hW 2 (Nat.le_of_ble_eq_true rfl)) (isWS_2 hW) rfl in_X3_putOnRack_3 (by decide) fl_X3_putOnRack_29 rfl dX3_putOnRack_28 ?_
    refine gx_iload_n (q := 1) C dX3_putOnRack_31 rfl ?_
    refine gx_iload_n (q := 3) C dX3_putOnRack_32 rfl ?_
    refine gx_callWv C hD (gFr_rf (f := f)) (kw_X4_write l hL hW 6 (Nat.le_of_ble_eq_true rfl) 20 rfl _ _) (isWS_in hW 15 (Nat.le_of_ble_eq_true rfl)) (isWS_row hW 6 (Nat.le_of_ble_eq_true rfl)) rfl (cwV 2 C.2.2.2.2.1 gX3_putOnRack_X4_write rfl rfl rfl kdV_X4_write ⟨Nat.le_of_ble_eq_true rfl, Nat.le_of_ble_eq_true rfl⟩) rfl rfl (Nat.le_of_ble_eq_true rfl) ⟨Nat.le_of_ble_eq_true rfl, Nat.le_of_ble_eq_true rfl⟩ dX3_putOnRack_33 (fun f_1 hW_1 hF_1 => ?_)
    exact gx_vretW C hr hW_1 hF_1 dX3_putOnRack_36 (by first | rfl | (rw [show cPutRack w q = wRow w 6 (rPut 20 (w.1 6) q (nI i)) by rw [cPutRack, cPlace, hpl]]))
  · skip
    have hlt : i < 23 := Nat.lt_of_not_le (fun z => c_10 ((nI_leI (a := 23) (b := i) (by decide) (by omega)).mpr z))
    obtain ⟨n, hn⟩ : ∃ n, 23 - i = n + 1 := ⟨22 - i, by omega⟩
    have h2 := hI.2
    rw [hn] at h2
    refine gx_iload_n (q := 2) C dX3_putOnRack_13 rfl ?_
    refine gx_iload_n (q := 3) C dX3_putOnRack_14 rfl ?_
    refine gx_ishr C dX3_putOnRack_15 ?_
    refine gx_iconst (v := 1) C dX3_putOnRack_16 (by decide) ?_
    refine gx_iand C dX3_putOnRack_17 ?_
    refine gx_if_eq (tgt := 27) C dX3_putOnRack_18 (by decide) (fun c_18 => ?_) (fun c_18 => ?_)
    · skip
      have hpl : fnN (cPlaceP (cTaken w)) 0 23 = i := by rw [← h2]; exact if_neg (by simp [cPlaceP, c_18])
      refine gx_aload_n (q := 0) C dX3_putOnRack_27 rfl ?_
      refine gx_get C (i := 4) (isWS_in hW 2 (Nat.le_of_ble_eq_true rfl)) (isWS_2 hW) rfl in_X3_putOnRack_3 (by decide) fl_X3_putOnRack_29 rfl dX3_putOnRack_28 ?_
      refine gx_iload_n (q := 1) C dX3_putOnRack_31 rfl ?_
      refine gx_iload_n (q := 3) C dX3_putOnRack_32 rfl ?_
      refine gx_callWv C hD (gFr_rf (f := f)) (kw_X4_write l hL hW 6 (Nat.le_of_ble_eq_true rfl) 20 rfl _ _) (isWS_in hW 15 (Nat.le_of_ble_eq_true rfl)) (isWS_row hW 6 (Nat.le_of_ble_eq_true rfl)) rfl (cwV 2 C.2.2.2.2.1 gX3_putOnRack_X4_write rfl rfl rfl kdV_X4_write ⟨Nat.le_of_ble_eq_true rfl, Nat.le_of_ble_eq_true rfl⟩) rfl rfl (Nat.le_of_ble_eq_true rfl) ⟨Nat.le_of_ble_eq_true rfl, Nat.le_of_ble_eq_true rfl⟩ dX3_putOnRack_33 (fun f_2 hW_2 hF_2 => ?_)
      exact gx_vretW C hr hW_2 hF_2 dX3_putOnRack_36 (by first | rfl | (rw [show cPutRack w q = wRow w 6 (rPut 20 (w.1 6) q (nI i)) by rw [cPutRack, cPlace, hpl]]))
    · skip
      refine gx_iinc C (q := 3) (v := nI (i + 1)) [(3, _), (0, _), (1, _), (2, _)] dX3_putOnRack_21 rfl (nI_inc i) (by decide) rfl ?_
      refine gx_goto (tgt := 7) C dX3_putOnRack_24 (by decide) ?_
      rw [show fnN (cPlaceP (cTaken w)) i (n + 1) = fnN (cPlaceP (cTaken w)) (i + 1) n from if_pos (by simp [cPlaceP, c_18])] at h2
      exact gx_back [1, 2, 3, 0] (ih (i + 1) ⟨by omega, by rw [show 23 - (i + 1) = n by omega]; exact h2⟩ (by omega)) rfl (by rfl)
theorem kdN_X3_onRacks : yX3_onRacks.cls ≠ "java/lang/invoke/MethodHandle" ∧ yX3_onRacks.cls ≠ "java/lang/invoke/VarHandle" ∧ (parseMethodDescriptor yX3_onRacks.desc).map (fun d => d.parameters.length) = some 0 := by decide +kernel
theorem kdV_X3_onRacks : yX3_onRacks.cls = RX3 ∧ yX3_onRacks.cls ≠ "java/lang/invoke/MethodHandle" ∧ yX3_onRacks.cls ≠ "java/lang/invoke/VarHandle" ∧ (parseMethodDescriptor yX3_onRacks.desc).map (fun d => d.parameters.length) = some 0 := ⟨rfl, kdN_X3_onRacks⟩
theorem in_X3_onRacks_3 : ∀ w ∈ u_ws RX3 TX3 9, w ∈ wsX3_onRacks := by decide +kernel
theorem fl_X3_onRacks_45 : Cond.fieldLink RX3 45 (TX3 8).1 (TX3 8).2.1 (TX3 8).2.2.1 ∈ wsX3_onRacks := by decide +kernel
abbrev rmX3_onRacks : Room := { frames := 2, cells := 0, slots := 0, locals := 42 }
set_option maxHeartbeats 4000000 in
set_option maxRecDepth 100000 in
theorem k_X3_onRacks (l : Launch) {k : gK} {L : List Nat} {f : Nat → va_E} {a : Nat → Nat} {w : WS} (hW : isWS k L f a w) (hN : wOK w)  : kR l k L f yX3_onRacks wsX3_onRacks rmX3_onRacks [.ref (a 2)] (.int (cOnRacks w)) := by
  refine kR_of (cc := cX3_onRacks) (maxL := 3) (ret := (some .int)) (by decide) rfl (Nat.le_of_ble_eq_true rfl) ?_
  intro p e s m args below meth c C hr
  refine gx_lv [(0, _)] [0] rfl ?_
  refine gx_iconst (v := 0) C dX3_onRacks_0 (by decide) ?_
  refine gx_istore_n C (i := 1) [(1, _), (0, _)] dX3_onRacks_1 rfl (by decide) rfl ?_
  refine gx_iconst (v := 0) C dX3_onRacks_2 (by decide) ?_
  refine gx_istore_n C (i := 2) [(2, _), (1, _), (0, _)] dX3_onRacks_3 rfl (by decide) rfl ?_
  refine gx_loop (σ := Nat) (fun i => f) (fun i => [(0, .ref (a 2)), (1, .int (mk (fun j => cRack w (nI j)) i)), (2, .int (nI i))]) (fun i => i ≤ wN w) (fun i => wN w - i) 0 [2, 1, 0] rfl rfl ?_ ?_
  · exact Nat.zero_le _
  intro i hI ih
  try dsimp only at hI ih ⊢
  have h20 := hN.2
  refine gx_iload_n (q := 2) C dX3_onRacks_4 rfl ?_
  refine gx_aload_n (q := 0) C dX3_onRacks_5 rfl ?_
  refine gx_get C (i := 8) (isWS_in hW 2 (Nat.le_of_ble_eq_true rfl)) (isWS_2 hW) rfl in_X3_onRacks_3 (by decide) fl_X3_onRacks_45 rfl dX3_onRacks_6 ?_
  refine gx_top (nI (wN w)) hN.1 ?_
  refine gx_icmp_ge (tgt := 32) C dX3_onRacks_9 (by decide) (fun c_9 => ?_) (fun c_9 => ?_)
  · skip
    have hb := (nI_leI (by omega) (by omega)).mp c_9
    refine gx_iload_n (q := 1) C dX3_onRacks_32 rfl ?_
    exact gx_iretR C rfl hr dX3_onRacks_33 (congrArg Value.int (by rw [show i = wN w by omega]; rfl))
  · skip
    have hlt : i < wN w := Nat.lt_of_not_le (fun z => c_9 ((nI_leI (by omega) (by omega)).mpr z))
    refine gx_aload_n (q := 0) C dX3_onRacks_12 rfl ?_
    refine gx_iload_n (q := 2) C dX3_onRacks_13 rfl ?_
    refine gx_callR C (k_X3_isOnRack l hW _) (isWS_in hW 2 (Nat.le_of_ble_eq_true rfl)) (isWS_2 hW) rfl (cwV 1 C.2.2.2.2.1 gX3_onRacks_X3_isOnRack rfl rfl rfl kdV_X3_isOnRack ⟨Nat.le_of_ble_eq_true rfl, Nat.le_of_ble_eq_true rfl⟩) rfl rfl (Nat.le_of_ble_eq_true rfl) ⟨Nat.le_of_ble_eq_true rfl, Nat.le_of_ble_eq_true rfl⟩ dX3_onRacks_14 ?_
    refine gx_if_eq (tgt := 26) C dX3_onRacks_17 (by decide) (fun c_17 => ?_) (fun c_17 => ?_)
    · skip
      have h_17 := bI0.mp c_17
      refine gx_iinc C (q := 2) (v := nI (i + 1)) [(2, _), (0, _), (1, _)] dX3_onRacks_26 rfl (nI_inc i) (by decide) rfl ?_
      refine gx_goto (tgt := 4) C dX3_onRacks_29 (by decide) ?_
      exact gx_back [1, 2, 0] (ih (i + 1) (by omega) (by omega)) rfl (by rw [mk_f (P := fun j => cRack w (nI j)) h_17]; rfl)
    · skip
      have h_17 := bI1.mp c_17
      refine gx_iload_n (q := 1) C dX3_onRacks_20 rfl ?_
      refine gx_iconst (v := 1) C dX3_onRacks_21 (by decide) ?_
      refine gx_iload_n (q := 2) C dX3_onRacks_22 rfl ?_
      refine gx_ishl C dX3_onRacks_23 ?_
      refine gx_ior C dX3_onRacks_24 ?_
      refine gx_istore_n C (i := 1) [(1, _), (0, _), (2, _)] dX3_onRacks_25 rfl (by decide) rfl ?_
      refine gx_iinc C (q := 2) (v := nI (i + 1)) [(2, _), (1, _), (0, _)] dX3_onRacks_26 rfl (nI_inc i) (by decide) rfl ?_
      refine gx_goto (tgt := 4) C dX3_onRacks_29 (by decide) ?_
      exact gx_back [2, 1, 0] (ih (i + 1) (by omega) (by omega)) rfl (by rw [mk_t (P := fun j => cRack w (nI j)) h_17]; rfl)
theorem kdN_X3_inKiln : yX3_inKiln.cls ≠ "java/lang/invoke/MethodHandle" ∧ yX3_inKiln.cls ≠ "java/lang/invoke/VarHandle" ∧ (parseMethodDescriptor yX3_inKiln.desc).map (fun d => d.parameters.length) = some 0 := by decide +kernel
theorem kdV_X3_inKiln : yX3_inKiln.cls = RX3 ∧ yX3_inKiln.cls ≠ "java/lang/invoke/MethodHandle" ∧ yX3_inKiln.cls ≠ "java/lang/invoke/VarHandle" ∧ (parseMethodDescriptor yX3_inKiln.desc).map (fun d => d.parameters.length) = some 0 := ⟨rfl, kdN_X3_inKiln⟩
theorem in_X3_inKiln_3 : ∀ w ∈ u_ws RX3 TX3 9, w ∈ wsX3_inKiln := by decide +kernel
theorem fl_X3_inKiln_29 : Cond.fieldLink RX3 29 (TX3 4).1 (TX3 4).2.1 (TX3 4).2.2.1 ∈ wsX3_inKiln := by decide +kernel
theorem fl_X3_inKiln_45 : Cond.fieldLink RX3 45 (TX3 8).1 (TX3 8).2.1 (TX3 8).2.2.1 ∈ wsX3_inKiln := by decide +kernel
abbrev rmX3_inKiln : Room := { frames := 1, cells := 0, slots := 0, locals := 24 }
set_option maxHeartbeats 4000000 in
set_option maxRecDepth 100000 in
theorem k_X3_inKiln (l : Launch) {k : gK} {L : List Nat} {f : Nat → va_E} {a : Nat → Nat} {w : WS} (hW : isWS k L f a w) (hN : wOK w)  : kR l k L f yX3_inKiln wsX3_inKiln rmX3_inKiln [.ref (a 2)] (.int (cInKiln w)) := by
  refine kR_of (cc := cX3_inKiln) (maxL := 1) (ret := (some .int)) (by decide) rfl (Nat.le_of_ble_eq_true rfl) ?_
  intro p e s m args below meth c C hr
  refine gx_lv [(0, _)] [0] rfl ?_
  refine gx_aload_n (q := 0) C dX3_inKiln_0 rfl ?_
  refine gx_get C (i := 4) (isWS_in hW 2 (Nat.le_of_ble_eq_true rfl)) (isWS_2 hW) rfl in_X3_inKiln_3 (by decide) fl_X3_inKiln_29 rfl dX3_inKiln_1 ?_
  refine gx_bipush (v := 24) C dX3_inKiln_4 (by decide) ?_
  refine gx_aload_n (q := 0) C dX3_inKiln_6 rfl ?_
  refine gx_get C (i := 8) (isWS_in hW 2 (Nat.le_of_ble_eq_true rfl)) (isWS_2 hW) rfl in_X3_inKiln_3 (by decide) fl_X3_inKiln_45 rfl dX3_inKiln_7 ?_
  refine gx_callR C (kw_X4_indexesOf l hW 6 (Nat.le_of_ble_eq_true rfl) 20 rfl (Nat.lt_of_le_of_lt hN.2 (by decide)) _ _ hN.1) (isWS_in hW 15 (Nat.le_of_ble_eq_true rfl)) (isWS_row hW 6 (Nat.le_of_ble_eq_true rfl)) rfl (cwV 2 C.2.2.2.2.1 gX3_inKiln_X4_indexesOf rfl rfl rfl kdV_X4_indexesOf ⟨Nat.le_of_ble_eq_true rfl, Nat.le_of_ble_eq_true rfl⟩) rfl rfl (Nat.le_of_ble_eq_true rfl) ⟨Nat.le_of_ble_eq_true rfl, Nat.le_of_ble_eq_true rfl⟩ dX3_inKiln_10 ?_
  exact gx_iretR C rfl hr dX3_inKiln_13 (congrArg Value.int (by rfl))
theorem kdN_X3_thrownBy : yX3_thrownBy.cls ≠ "java/lang/invoke/MethodHandle" ∧ yX3_thrownBy.cls ≠ "java/lang/invoke/VarHandle" ∧ (parseMethodDescriptor yX3_thrownBy.desc).map (fun d => d.parameters.length) = some 1 := by decide +kernel
theorem kdV_X3_thrownBy : yX3_thrownBy.cls = RX3 ∧ yX3_thrownBy.cls ≠ "java/lang/invoke/MethodHandle" ∧ yX3_thrownBy.cls ≠ "java/lang/invoke/VarHandle" ∧ (parseMethodDescriptor yX3_thrownBy.desc).map (fun d => d.parameters.length) = some 1 := ⟨rfl, kdN_X3_thrownBy⟩
theorem in_X3_thrownBy_3 : ∀ w ∈ u_ws RX3 TX3 9, w ∈ wsX3_thrownBy := by decide +kernel
theorem fl_X3_thrownBy_14 : Cond.fieldLink RX3 14 (TX3 0).1 (TX3 0).2.1 (TX3 0).2.2.1 ∈ wsX3_thrownBy := by decide +kernel
theorem fl_X3_thrownBy_45 : Cond.fieldLink RX3 45 (TX3 8).1 (TX3 8).2.1 (TX3 8).2.2.1 ∈ wsX3_thrownBy := by decide +kernel
abbrev rmX3_thrownBy : Room := { frames := 1, cells := 0, slots := 0, locals := 24 }
set_option maxHeartbeats 4000000 in
set_option maxRecDepth 100000 in
theorem k_X3_thrownBy (l : Launch) {k : gK} {L : List Nat} {f : Nat → va_E} {a : Nat → Nat} {w : WS} (hW : isWS k L f a w) (hN : wOK w) (q : Int32) : kR l k L f yX3_thrownBy wsX3_thrownBy rmX3_thrownBy [.ref (a 2), .int q] (.int (cThrownBy w q)) := by
  refine kR_of (cc := cX3_thrownBy) (maxL := 2) (ret := (some .int)) (by decide) rfl (Nat.le_of_ble_eq_true rfl) ?_
  intro p e s m args below meth c C hr
  refine gx_lv [(0, _), (1, _)] [0, 1] rfl ?_
  refine gx_aload_n (q := 0) C dX3_thrownBy_0 rfl ?_
  refine gx_get C (i := 0) (isWS_in hW 2 (Nat.le_of_ble_eq_true rfl)) (isWS_2 hW) rfl in_X3_thrownBy_3 (by decide) fl_X3_thrownBy_14 rfl dX3_thrownBy_1 ?_
  refine gx_iload_n (q := 1) C dX3_thrownBy_4 rfl ?_
  refine gx_aload_n (q := 0) C dX3_thrownBy_5 rfl ?_
  refine gx_get C (i := 8) (isWS_in hW 2 (Nat.le_of_ble_eq_true rfl)) (isWS_2 hW) rfl in_X3_thrownBy_3 (by decide) fl_X3_thrownBy_45 rfl dX3_thrownBy_6 ?_
  refine gx_callR C (kw_X4_indexesOf l hW 2 (Nat.le_of_ble_eq_true rfl) 20 rfl (Nat.lt_of_le_of_lt hN.2 (by decide)) _ _ hN.1) (isWS_in hW 7 (Nat.le_of_ble_eq_true rfl)) (isWS_row hW 2 (Nat.le_of_ble_eq_true rfl)) rfl (cwV 2 C.2.2.2.2.1 gX3_thrownBy_X4_indexesOf rfl rfl rfl kdV_X4_indexesOf ⟨Nat.le_of_ble_eq_true rfl, Nat.le_of_ble_eq_true rfl⟩) rfl rfl (Nat.le_of_ble_eq_true rfl) ⟨Nat.le_of_ble_eq_true rfl, Nat.le_of_ble_eq_true rfl⟩ dX3_thrownBy_9 ?_
  exact gx_iretR C rfl hr dX3_thrownBy_12 (congrArg Value.int (by rfl))
theorem kdN_X3_ofKind : yX3_ofKind.cls ≠ "java/lang/invoke/MethodHandle" ∧ yX3_ofKind.cls ≠ "java/lang/invoke/VarHandle" ∧ (parseMethodDescriptor yX3_ofKind.desc).map (fun d => d.parameters.length) = some 1 := by decide +kernel
theorem kdV_X3_ofKind : yX3_ofKind.cls = RX3 ∧ yX3_ofKind.cls ≠ "java/lang/invoke/MethodHandle" ∧ yX3_ofKind.cls ≠ "java/lang/invoke/VarHandle" ∧ (parseMethodDescriptor yX3_ofKind.desc).map (fun d => d.parameters.length) = some 1 := ⟨rfl, kdN_X3_ofKind⟩
theorem in_X3_ofKind_3 : ∀ w ∈ u_ws RX3 TX3 9, w ∈ wsX3_ofKind := by decide +kernel
theorem fl_X3_ofKind_26 : Cond.fieldLink RX3 26 (TX3 3).1 (TX3 3).2.1 (TX3 3).2.2.1 ∈ wsX3_ofKind := by decide +kernel
theorem fl_X3_ofKind_45 : Cond.fieldLink RX3 45 (TX3 8).1 (TX3 8).2.1 (TX3 8).2.2.1 ∈ wsX3_ofKind := by decide +kernel
abbrev rmX3_ofKind : Room := { frames := 1, cells := 0, slots := 0, locals := 24 }
set_option maxHeartbeats 4000000 in
set_option maxRecDepth 100000 in
theorem k_X3_ofKind (l : Launch) {k : gK} {L : List Nat} {f : Nat → va_E} {a : Nat → Nat} {w : WS} (hW : isWS k L f a w) (hN : wOK w) (q : Int32) : kR l k L f yX3_ofKind wsX3_ofKind rmX3_ofKind [.ref (a 2), .int q] (.int (cOfKind w q)) := by
  refine kR_of (cc := cX3_ofKind) (maxL := 2) (ret := (some .int)) (by decide) rfl (Nat.le_of_ble_eq_true rfl) ?_
  intro p e s m args below meth c C hr
  refine gx_lv [(0, _), (1, _)] [0, 1] rfl ?_
  refine gx_aload_n (q := 0) C dX3_ofKind_0 rfl ?_
  refine gx_get C (i := 3) (isWS_in hW 2 (Nat.le_of_ble_eq_true rfl)) (isWS_2 hW) rfl in_X3_ofKind_3 (by decide) fl_X3_ofKind_26 rfl dX3_ofKind_1 ?_
  refine gx_iload_n (q := 1) C dX3_ofKind_4 rfl ?_
  refine gx_aload_n (q := 0) C dX3_ofKind_5 rfl ?_
  refine gx_get C (i := 8) (isWS_in hW 2 (Nat.le_of_ble_eq_true rfl)) (isWS_2 hW) rfl in_X3_ofKind_3 (by decide) fl_X3_ofKind_45 rfl dX3_ofKind_6 ?_
  refine gx_callR C (kw_X4_indexesOf l hW 5 (Nat.le_of_ble_eq_true rfl) 20 rfl (Nat.lt_of_le_of_lt hN.2 (by decide)) _ _ hN.1) (isWS_in hW 13 (Nat.le_of_ble_eq_true rfl)) (isWS_row hW 5 (Nat.le_of_ble_eq_true rfl)) rfl (cwV 2 C.2.2.2.2.1 gX3_ofKind_X4_indexesOf rfl rfl rfl kdV_X4_indexesOf ⟨Nat.le_of_ble_eq_true rfl, Nat.le_of_ble_eq_true rfl⟩) rfl rfl (Nat.le_of_ble_eq_true rfl) ⟨Nat.le_of_ble_eq_true rfl, Nat.le_of_ble_eq_true rfl⟩ dX3_ofKind_9 ?_
  exact gx_iretR C rfl hr dX3_ofKind_12 (congrArg Value.int (by rfl))
theorem kdN_X3_sizesInKiln : yX3_sizesInKiln.cls ≠ "java/lang/invoke/MethodHandle" ∧ yX3_sizesInKiln.cls ≠ "java/lang/invoke/VarHandle" ∧ (parseMethodDescriptor yX3_sizesInKiln.desc).map (fun d => d.parameters.length) = some 0 := by decide +kernel
theorem kdV_X3_sizesInKiln : yX3_sizesInKiln.cls = RX3 ∧ yX3_sizesInKiln.cls ≠ "java/lang/invoke/MethodHandle" ∧ yX3_sizesInKiln.cls ≠ "java/lang/invoke/VarHandle" ∧ (parseMethodDescriptor yX3_sizesInKiln.desc).map (fun d => d.parameters.length) = some 0 := ⟨rfl, kdN_X3_sizesInKiln⟩
theorem in_X3_sizesInKiln_3 : ∀ w ∈ u_ws RX3 TX3 9, w ∈ wsX3_sizesInKiln := by decide +kernel
theorem fl_X3_sizesInKiln_45 : Cond.fieldLink RX3 45 (TX3 8).1 (TX3 8).2.1 (TX3 8).2.2.1 ∈ wsX3_sizesInKiln := by decide +kernel
theorem fl_X3_sizesInKiln_20 : Cond.fieldLink RX3 20 (TX3 1).1 (TX3 1).2.1 (TX3 1).2.2.1 ∈ wsX3_sizesInKiln := by decide +kernel
abbrev rmX3_sizesInKiln : Room := { frames := 2, cells := 0, slots := 0, locals := 42 }
set_option maxHeartbeats 4000000 in
set_option maxRecDepth 100000 in
theorem k_X3_sizesInKiln (l : Launch) {k : gK} {L : List Nat} {f : Nat → va_E} {a : Nat → Nat} {w : WS} (hW : isWS k L f a w) (hN : wOK w)  : kR l k L f yX3_sizesInKiln wsX3_sizesInKiln rmX3_sizesInKiln [.ref (a 2)] (.int (cSizes w)) := by
  refine kR_of (cc := cX3_sizesInKiln) (maxL := 3) (ret := (some .int)) (by decide) rfl (Nat.le_of_ble_eq_true rfl) ?_
  intro p e s m args below meth c C hr
  refine gx_lv [(0, _)] [0] rfl ?_
  refine gx_iconst (v := 0) C dX3_sizesInKiln_0 (by decide) ?_
  refine gx_istore_n C (i := 1) [(1, _), (0, _)] dX3_sizesInKiln_1 rfl (by decide) rfl ?_
  refine gx_iconst (v := 0) C dX3_sizesInKiln_2 (by decide) ?_
  refine gx_istore_n C (i := 2) [(2, _), (1, _), (0, _)] dX3_sizesInKiln_3 rfl (by decide) rfl ?_
  refine gx_loop (σ := Nat) (fun i => f) (fun i => [(0, .ref (a 2)), (1, .int (cSz w i)), (2, .int (nI i))]) (fun i => i ≤ wN w) (fun i => wN w - i) 0 [2, 1, 0] rfl rfl ?_ ?_
  · exact Nat.zero_le _
  intro i hI ih
  try dsimp only at hI ih ⊢
  have h20 := hN.2
  refine gx_iload_n (q := 2) C dX3_sizesInKiln_4 rfl ?_
  refine gx_aload_n (q := 0) C dX3_sizesInKiln_5 rfl ?_
  refine gx_get C (i := 8) (isWS_in hW 2 (Nat.le_of_ble_eq_true rfl)) (isWS_2 hW) rfl in_X3_sizesInKiln_3 (by decide) fl_X3_sizesInKiln_45 rfl dX3_sizesInKiln_6 ?_
  refine gx_top (nI (wN w)) hN.1 ?_
  refine gx_icmp_ge (tgt := 37) C dX3_sizesInKiln_9 (by decide) (fun c_9 => ?_) (fun c_9 => ?_)
  · skip
    have hb := (nI_leI (by omega) (by omega)).mp c_9
    refine gx_iload_n (q := 1) C dX3_sizesInKiln_37 rfl ?_
    exact gx_iretR C rfl hr dX3_sizesInKiln_38 (congrArg Value.int (by rw [show i = wN w by omega]; rfl))
  · skip
    have hlt : i < wN w := Nat.lt_of_not_le (fun z => c_9 ((nI_leI (by omega) (by omega)).mpr z))
    refine gx_aload_n (q := 0) C dX3_sizesInKiln_12 rfl ?_
    refine gx_iload_n (q := 2) C dX3_sizesInKiln_13 rfl ?_
    refine gx_callR C (k_X3_isInKiln l hW _) (isWS_in hW 2 (Nat.le_of_ble_eq_true rfl)) (isWS_2 hW) rfl (cwV 1 C.2.2.2.2.1 gX3_sizesInKiln_X3_isInKiln rfl rfl rfl kdV_X3_isInKiln ⟨Nat.le_of_ble_eq_true rfl, Nat.le_of_ble_eq_true rfl⟩) rfl rfl (Nat.le_of_ble_eq_true rfl) ⟨Nat.le_of_ble_eq_true rfl, Nat.le_of_ble_eq_true rfl⟩ dX3_sizesInKiln_14 ?_
    refine gx_if_eq (tgt := 31) C dX3_sizesInKiln_17 (by decide) (fun c_17 => ?_) (fun c_17 => ?_)
    · skip
      have h_17 := bI0.mp c_17
      refine gx_iinc C (q := 2) (v := nI (i + 1)) [(2, _), (0, _), (1, _)] dX3_sizesInKiln_31 rfl (nI_inc i) (by decide) rfl ?_
      refine gx_goto (tgt := 4) C dX3_sizesInKiln_34 (by decide) ?_
      exact gx_back [1, 2, 0] (ih (i + 1) (by omega) (by omega)) rfl (by rw [show cSz w (i + 1) = _ from if_neg (by rw [h_17]; decide)]; rfl)
    · skip
      have h_17 := bI1.mp c_17
      refine gx_iload_n (q := 1) C dX3_sizesInKiln_20 rfl ?_
      refine gx_aload_n (q := 0) C dX3_sizesInKiln_21 rfl ?_
      refine gx_get C (i := 1) (isWS_in hW 2 (Nat.le_of_ble_eq_true rfl)) (isWS_2 hW) rfl in_X3_sizesInKiln_3 (by decide) fl_X3_sizesInKiln_20 rfl dX3_sizesInKiln_22 ?_
      refine gx_iload_n (q := 2) C dX3_sizesInKiln_25 rfl ?_
      refine gx_callR C (kw_X4_at l hW 3 (Nat.le_of_ble_eq_true rfl) 20 rfl _) (isWS_in hW 9 (Nat.le_of_ble_eq_true rfl)) (isWS_row hW 3 (Nat.le_of_ble_eq_true rfl)) rfl (cwV 1 C.2.2.2.2.1 gX3_sizesInKiln_X4_at rfl rfl rfl kdV_X4_at ⟨Nat.le_of_ble_eq_true rfl, Nat.le_of_ble_eq_true rfl⟩) rfl rfl (Nat.le_of_ble_eq_true rfl) ⟨Nat.le_of_ble_eq_true rfl, Nat.le_of_ble_eq_true rfl⟩ dX3_sizesInKiln_26 ?_
      refine gx_iadd C dX3_sizesInKiln_29 ?_
      refine gx_istore_n C (i := 1) [(1, _), (0, _), (2, _)] dX3_sizesInKiln_30 rfl (by decide) rfl ?_
      refine gx_iinc C (q := 2) (v := nI (i + 1)) [(2, _), (1, _), (0, _)] dX3_sizesInKiln_31 rfl (nI_inc i) (by decide) rfl ?_
      refine gx_goto (tgt := 4) C dX3_sizesInKiln_34 (by decide) ?_
      exact gx_back [2, 1, 0] (ih (i + 1) (by omega) (by omega)) rfl (by rw [show cSz w (i + 1) = _ from if_pos h_17]; rfl)
theorem kdN_X3_isKilnForOtherThan : yX3_isKilnForOtherThan.cls ≠ "java/lang/invoke/MethodHandle" ∧ yX3_isKilnForOtherThan.cls ≠ "java/lang/invoke/VarHandle" ∧ (parseMethodDescriptor yX3_isKilnForOtherThan.desc).map (fun d => d.parameters.length) = some 1 := by decide +kernel
theorem kdV_X3_isKilnForOtherThan : yX3_isKilnForOtherThan.cls = RX3 ∧ yX3_isKilnForOtherThan.cls ≠ "java/lang/invoke/MethodHandle" ∧ yX3_isKilnForOtherThan.cls ≠ "java/lang/invoke/VarHandle" ∧ (parseMethodDescriptor yX3_isKilnForOtherThan.desc).map (fun d => d.parameters.length) = some 1 := ⟨rfl, kdN_X3_isKilnForOtherThan⟩
abbrev rmX3_isKilnForOtherThan : Room := { frames := 2, cells := 0, slots := 0, locals := 45 }
set_option maxHeartbeats 4000000 in
set_option maxRecDepth 100000 in
theorem k_X3_isKilnForOtherThan (l : Launch) {k : gK} {L : List Nat} {f : Nat → va_E} {a : Nat → Nat} {w : WS} (hW : isWS k L f a w) (hN : wOK w) (kd : Int32) : kR l k L f yX3_isKilnForOtherThan wsX3_isKilnForOtherThan rmX3_isKilnForOtherThan [.ref (a 2), .int kd] (.int (bI (cOther w kd))) := by
  refine kR_of (cc := cX3_isKilnForOtherThan) (maxL := 2) (ret := (some .boolean)) (by decide) rfl (Nat.le_of_ble_eq_true rfl) ?_
  intro p e s m args below meth c C hr
  refine gx_lv [(0, _), (1, _)] [0, 1] rfl ?_
  refine gx_aload_n (q := 0) C dX3_isKilnForOtherThan_0 rfl ?_
  refine gx_callR C (k_X3_inKiln l hW hN ) (isWS_in hW 2 (Nat.le_of_ble_eq_true rfl)) (isWS_2 hW) rfl (cwV 0 C.2.2.2.2.1 gX3_isKilnForOtherThan_X3_inKiln rfl rfl rfl kdV_X3_inKiln ⟨Nat.le_of_ble_eq_true rfl, Nat.le_of_ble_eq_true rfl⟩) rfl rfl (Nat.le_of_ble_eq_true rfl) ⟨Nat.le_of_ble_eq_true rfl, Nat.le_of_ble_eq_true rfl⟩ dX3_isKilnForOtherThan_1 ?_
  refine gx_aload_n (q := 0) C dX3_isKilnForOtherThan_4 rfl ?_
  refine gx_iload_n (q := 1) C dX3_isKilnForOtherThan_5 rfl ?_
  refine gx_callR C (k_X3_ofKind l hW hN _) (isWS_in hW 2 (Nat.le_of_ble_eq_true rfl)) (isWS_2 hW) rfl (cwV 1 C.2.2.2.2.1 gX3_isKilnForOtherThan_X3_ofKind rfl rfl rfl kdV_X3_ofKind ⟨Nat.le_of_ble_eq_true rfl, Nat.le_of_ble_eq_true rfl⟩) rfl rfl (Nat.le_of_ble_eq_true rfl) ⟨Nat.le_of_ble_eq_true rfl, Nat.le_of_ble_eq_true rfl⟩ dX3_isKilnForOtherThan_6 ?_
  refine gx_iconst (v := (-1)) C dX3_isKilnForOtherThan_9 (by decide) ?_
  refine gx_ixor C dX3_isKilnForOtherThan_10 ?_
  refine gx_iand C dX3_isKilnForOtherThan_11 ?_
  refine gx_if_eq (tgt := 19) C dX3_isKilnForOtherThan_12 (by decide) (fun c_12 => ?_) (fun c_12 => ?_)
  · skip
    refine gx_iconst (v := 0) C dX3_isKilnForOtherThan_19 (by decide) ?_
    exact gx_zretR C rfl hr (Or.inl rfl) dX3_isKilnForOtherThan_20 (congrArg Value.int (by exact (congrArg bI (decide_eq_false (not_not_intro c_12))).symm))
  · skip
    refine gx_iconst (v := 1) C dX3_isKilnForOtherThan_15 (by decide) ?_
    refine gx_goto (tgt := 20) C dX3_isKilnForOtherThan_16 (by decide) ?_
    exact gx_zretR C rfl hr (Or.inr rfl) dX3_isKilnForOtherThan_20 (congrArg Value.int (by exact (congrArg bI (decide_eq_true c_12)).symm))
theorem kdN_X3_dryOneNight : yX3_dryOneNight.cls ≠ "java/lang/invoke/MethodHandle" ∧ yX3_dryOneNight.cls ≠ "java/lang/invoke/VarHandle" ∧ (parseMethodDescriptor yX3_dryOneNight.desc).map (fun d => d.parameters.length) = some 0 := by decide +kernel
theorem kdV_X3_dryOneNight : yX3_dryOneNight.cls = RX3 ∧ yX3_dryOneNight.cls ≠ "java/lang/invoke/MethodHandle" ∧ yX3_dryOneNight.cls ≠ "java/lang/invoke/VarHandle" ∧ (parseMethodDescriptor yX3_dryOneNight.desc).map (fun d => d.parameters.length) = some 0 := ⟨rfl, kdN_X3_dryOneNight⟩
theorem in_X3_dryOneNight_3 : ∀ w ∈ u_ws RX3 TX3 9, w ∈ wsX3_dryOneNight := by decide +kernel
theorem fl_X3_dryOneNight_45 : Cond.fieldLink RX3 45 (TX3 8).1 (TX3 8).2.1 (TX3 8).2.2.1 ∈ wsX3_dryOneNight := by decide +kernel
theorem fl_X3_dryOneNight_32 : Cond.fieldLink RX3 32 (TX3 5).1 (TX3 5).2.1 (TX3 5).2.2.1 ∈ wsX3_dryOneNight := by decide +kernel
abbrev rmX3_dryOneNight : Room := { frames := 2, cells := 0, slots := 0, locals := 44 }
set_option maxHeartbeats 4000000 in
set_option maxRecDepth 100000 in
theorem k_X3_dryOneNight (l : Launch) {k : gK} {L : List Nat} {f : Nat → va_E} (hL : L.Nodup) {a : Nat → Nat} {w : WS} (hW : isWS k L f a w) (hN : wOK w)  : kM l k L f yX3_dryOneNight wsX3_dryOneNight rmX3_dryOneNight [.ref (a 2)] (wP k L a f none (cDry w)) := by
  refine kM_of (cc := cX3_dryOneNight) (maxL := 2) (ret := none) (by decide) rfl (Nat.le_of_ble_eq_true rfl) ?_
  intro p e s m args below meth c C hr
  have hD : gD (fun q => q ∈ L) L := ⟨hL, fun _ h => h⟩
  refine gx_lv [(0, _)] [0] rfl ?_
  refine gx_iconst (v := 0) C dX3_dryOneNight_0 (by decide) ?_
  refine gx_istore_n C (i := 1) [(1, _), (0, _)] dX3_dryOneNight_1 rfl (by decide) rfl ?_
  refine gx_loop (σ := Nat × (Nat → va_E)) (fun z => z.2) (fun z => [(0, .ref (a 2)), (1, .int (nI z.1))]) (fun z => z.1 ≤ wN w ∧ isWS k L z.2 a (cDryN w z.1) ∧ gFr a 27 f z.2) (fun z => wN w - z.1) (0, _) [1, 0] rfl rfl ?_ ?_
  · exact ⟨Nat.zero_le _, hW, (gFr_rf (f := f))⟩
  intro ⟨i, fi⟩ ⟨hI, hWi, hFi⟩ ih
  try dsimp only at hI hWi hFi ih ⊢
  refine gx_iload_n (q := 1) C dX3_dryOneNight_2 rfl ?_
  refine gx_aload_n (q := 0) C dX3_dryOneNight_3 rfl ?_
  refine gx_get C (i := 8) (isWS_in hWi 2 (Nat.le_of_ble_eq_true rfl)) (isWS_2 hWi) rfl in_X3_dryOneNight_3 (by decide) fl_X3_dryOneNight_45 rfl dX3_dryOneNight_4 ?_
  refine gx_top (nI (wN w)) (by rw [cDryN_n]; exact hN.1) ?_
  refine gx_icmp_ge (tgt := 54) C dX3_dryOneNight_7 (by decide) (fun c_7 => ?_) (fun c_7 => ?_)
  · skip
    have hb := (nI_leI (by have := hN.2; omega) (by have := hN.2; omega)).mp c_7
    exact gx_vretW C hr hWi hFi dX3_dryOneNight_54 (by rw [show i = wN w by omega]; rfl)
  · skip
    have hlt : i < wN w := Nat.lt_of_not_le (fun z => c_7 ((nI_leI (by have := hN.2; omega) (by have := hN.2; omega)).mpr z))
    refine gx_aload_n (q := 0) C dX3_dryOneNight_10 rfl ?_
    refine gx_iload_n (q := 1) C dX3_dryOneNight_11 rfl ?_
    refine gx_callR C (k_X3_isOnRack l hWi _) (isWS_in hWi 2 (Nat.le_of_ble_eq_true rfl)) (isWS_2 hWi) rfl (cwV 1 C.2.2.2.2.1 gX3_dryOneNight_X3_isOnRack rfl rfl rfl kdV_X3_isOnRack ⟨Nat.le_of_ble_eq_true rfl, Nat.le_of_ble_eq_true rfl⟩) rfl rfl (Nat.le_of_ble_eq_true rfl) ⟨Nat.le_of_ble_eq_true rfl, Nat.le_of_ble_eq_true rfl⟩ dX3_dryOneNight_12 ?_
    refine gx_if_eq (tgt := 48) C dX3_dryOneNight_15 (by decide) (fun c_15 => ?_) (fun c_15 => ?_)
    · skip
      have h_15 := bI0.mp c_15
      refine gx_iinc C (q := 1) (v := nI (i + 1)) [(1, _), (0, _)] dX3_dryOneNight_48 rfl (nI_inc i) (by decide) rfl ?_
      refine gx_goto (tgt := 2) C dX3_dryOneNight_51 (by decide) ?_
      have hst : cDryN w (i + 1) = cDry1 (cDryN w i) (nI i) := rfl
      exact gx_back [1, 0] (ih (i + 1, _) ⟨by omega, (by rw [hst, cDry1, if_neg (by rw [h_15]; intro z; exact absurd z.1 (by decide))]; exact hWi), hFi⟩ (by show wN w - (i + 1) < wN w - i; omega)) rfl (by rfl)
    · skip
      have h_15 := bI1.mp c_15
      refine gx_aload_n (q := 0) C dX3_dryOneNight_18 rfl ?_
      refine gx_iload_n (q := 1) C dX3_dryOneNight_19 rfl ?_
      refine gx_iconst (v := 0) C dX3_dryOneNight_20 (by decide) ?_
      refine gx_callR C (k_X3_isKind l hWi _ _) (isWS_in hWi 2 (Nat.le_of_ble_eq_true rfl)) (isWS_2 hWi) rfl (cwV 2 C.2.2.2.2.1 gX3_dryOneNight_X3_isKind rfl rfl rfl kdV_X3_isKind ⟨Nat.le_of_ble_eq_true rfl, Nat.le_of_ble_eq_true rfl⟩) rfl rfl (Nat.le_of_ble_eq_true rfl) ⟨Nat.le_of_ble_eq_true rfl, Nat.le_of_ble_eq_true rfl⟩ dX3_dryOneNight_21 ?_
      refine gx_if_eq (tgt := 48) C dX3_dryOneNight_24 (by decide) (fun c_24 => ?_) (fun c_24 => ?_)
      · skip
        have h_24 := bI0.mp c_24
        refine gx_iinc C (q := 1) (v := nI (i + 1)) [(1, _), (0, _)] dX3_dryOneNight_48 rfl (nI_inc i) (by decide) rfl ?_
        refine gx_goto (tgt := 2) C dX3_dryOneNight_51 (by decide) ?_
        have hst : cDryN w (i + 1) = cDry1 (cDryN w i) (nI i) := rfl
        exact gx_back [1, 0] (ih (i + 1, _) ⟨by omega, (by rw [hst, cDry1, if_neg (by rw [h_24]; intro z; exact absurd z.2 (by decide))]; exact hWi), hFi⟩ (by show wN w - (i + 1) < wN w - i; omega)) rfl (by rfl)
      · skip
        have h_24 := bI1.mp c_24
        refine gx_aload_n (q := 0) C dX3_dryOneNight_27 rfl ?_
        refine gx_get C (i := 5) (isWS_in hWi 2 (Nat.le_of_ble_eq_true rfl)) (isWS_2 hWi) rfl in_X3_dryOneNight_3 (by decide) fl_X3_dryOneNight_32 rfl dX3_dryOneNight_28 ?_
        refine gx_iload_n (q := 1) C dX3_dryOneNight_31 rfl ?_
        refine gx_aload_n (q := 0) C dX3_dryOneNight_32 rfl ?_
        refine gx_iload_n (q := 1) C dX3_dryOneNight_33 rfl ?_
        refine gx_callR C (k_X3_isBesideKiln l hWi _) (isWS_in hWi 2 (Nat.le_of_ble_eq_true rfl)) (isWS_2 hWi) rfl (cwV 1 C.2.2.2.2.1 gX3_dryOneNight_X3_isBesideKiln rfl rfl rfl kdV_X3_isBesideKiln ⟨Nat.le_of_ble_eq_true rfl, Nat.le_of_ble_eq_true rfl⟩) rfl rfl (Nat.le_of_ble_eq_true rfl) ⟨Nat.le_of_ble_eq_true rfl, Nat.le_of_ble_eq_true rfl⟩ dX3_dryOneNight_34 ?_
        refine gx_if_eq (tgt := 44) C dX3_dryOneNight_37 (by decide) (fun c_37 => ?_) (fun c_37 => ?_)
        · skip
          have h_37 := bI0.mp c_37
          refine gx_iconst (v := 1) C dX3_dryOneNight_44 (by decide) ?_
          refine gx_callWv C hD hFi (kw_X4_add l hL hWi 7 (Nat.le_of_ble_eq_true rfl) 20 rfl _ _) (isWS_in hWi 17 (Nat.le_of_ble_eq_true rfl)) (isWS_row hWi 7 (Nat.le_of_ble_eq_true rfl)) rfl (cwV 2 C.2.2.2.2.1 gX3_dryOneNight_X4_add rfl rfl rfl kdV_X4_add ⟨Nat.le_of_ble_eq_true rfl, Nat.le_of_ble_eq_true rfl⟩) rfl rfl (Nat.le_of_ble_eq_true rfl) ⟨Nat.le_of_ble_eq_true rfl, Nat.le_of_ble_eq_true rfl⟩ dX3_dryOneNight_45 (fun f_1 hW_1 hF_1 => ?_)
          refine gx_iinc C (q := 1) (v := nI (i + 1)) [(1, _), (0, _)] dX3_dryOneNight_48 rfl (nI_inc i) (by decide) rfl ?_
          refine gx_goto (tgt := 2) C dX3_dryOneNight_51 (by decide) ?_
          have hst : cDryN w (i + 1) = cDry1 (cDryN w i) (nI i) := rfl
          exact gx_back [1, 0] (ih (i + 1, _) ⟨by omega, (by rw [hst, cDry1, if_pos ⟨h_15, h_24⟩, if_neg (by rw [h_37]; decide)]; exact hW_1), hF_1⟩ (by show wN w - (i + 1) < wN w - i; omega)) rfl (by rfl)
        · skip
          have h_37 := bI1.mp c_37
          refine gx_iconst (v := 2) C dX3_dryOneNight_40 (by decide) ?_
          refine gx_goto (tgt := 45) C dX3_dryOneNight_41 (by decide) ?_
          refine gx_callWv C hD hFi (kw_X4_add l hL hWi 7 (Nat.le_of_ble_eq_true rfl) 20 rfl _ _) (isWS_in hWi 17 (Nat.le_of_ble_eq_true rfl)) (isWS_row hWi 7 (Nat.le_of_ble_eq_true rfl)) rfl (cwV 2 C.2.2.2.2.1 gX3_dryOneNight_X4_add rfl rfl rfl kdV_X4_add ⟨Nat.le_of_ble_eq_true rfl, Nat.le_of_ble_eq_true rfl⟩) rfl rfl (Nat.le_of_ble_eq_true rfl) ⟨Nat.le_of_ble_eq_true rfl, Nat.le_of_ble_eq_true rfl⟩ dX3_dryOneNight_45 (fun f_2 hW_2 hF_2 => ?_)
          refine gx_iinc C (q := 1) (v := nI (i + 1)) [(1, _), (0, _)] dX3_dryOneNight_48 rfl (nI_inc i) (by decide) rfl ?_
          refine gx_goto (tgt := 2) C dX3_dryOneNight_51 (by decide) ?_
          have hst : cDryN w (i + 1) = cDry1 (cDryN w i) (nI i) := rfl
          exact gx_back [1, 0] (ih (i + 1, _) ⟨by omega, (by rw [hst, cDry1, if_pos ⟨h_15, h_24⟩, if_pos h_37]; exact hW_2), hF_2⟩ (by show wN w - (i + 1) < wN w - i; omega)) rfl (by rfl)
theorem kdN_X3_heatOfGlazeOn : yX3_heatOfGlazeOn.cls ≠ "java/lang/invoke/MethodHandle" ∧ yX3_heatOfGlazeOn.cls ≠ "java/lang/invoke/VarHandle" ∧ (parseMethodDescriptor yX3_heatOfGlazeOn.desc).map (fun d => d.parameters.length) = some 1 := by decide +kernel
theorem kdV_X3_heatOfGlazeOn : yX3_heatOfGlazeOn.cls = RX3 ∧ yX3_heatOfGlazeOn.cls ≠ "java/lang/invoke/MethodHandle" ∧ yX3_heatOfGlazeOn.cls ≠ "java/lang/invoke/VarHandle" ∧ (parseMethodDescriptor yX3_heatOfGlazeOn.desc).map (fun d => d.parameters.length) = some 1 := ⟨rfl, kdN_X3_heatOfGlazeOn⟩
theorem in_X3_heatOfGlazeOn_3 : ∀ w ∈ u_ws RX3 TX3 9, w ∈ wsX3_heatOfGlazeOn := by decide +kernel
theorem fl_X3_heatOfGlazeOn_35 : Cond.fieldLink RX3 35 (TX3 6).1 (TX3 6).2.1 (TX3 6).2.2.1 ∈ wsX3_heatOfGlazeOn := by decide +kernel
abbrev rmX3_heatOfGlazeOn : Room := { frames := 1, cells := 0, slots := 0, locals := 21 }
set_option maxHeartbeats 4000000 in
set_option maxRecDepth 100000 in
theorem k_X3_heatOfGlazeOn (l : Launch) {k : gK} {L : List Nat} {f : Nat → va_E} {a : Nat → Nat} {w : WS} (hW : isWS k L f a w) (q : Int32) : kR l k L f yX3_heatOfGlazeOn wsX3_heatOfGlazeOn rmX3_heatOfGlazeOn [.ref (a 2), .int q] (.int (cHeatOf w q)) := by
  refine kR_of (cc := cX3_heatOfGlazeOn) (maxL := 2) (ret := (some .int)) (by decide) rfl (Nat.le_of_ble_eq_true rfl) ?_
  intro p e s m args below meth c C hr
  refine gx_lv [(0, _), (1, _)] [0, 1] rfl ?_
  refine gx_bipush (v := 100) C dX3_heatOfGlazeOn_0 (by decide) ?_
  refine gx_iconst (v := 5) C dX3_heatOfGlazeOn_2 (by decide) ?_
  refine gx_aload_n (q := 0) C dX3_heatOfGlazeOn_3 rfl ?_
  refine gx_get C (i := 6) (isWS_in hW 2 (Nat.le_of_ble_eq_true rfl)) (isWS_2 hW) rfl in_X3_heatOfGlazeOn_3 (by decide) fl_X3_heatOfGlazeOn_35 rfl dX3_heatOfGlazeOn_4 ?_
  refine gx_iload_n (q := 1) C dX3_heatOfGlazeOn_7 rfl ?_
  refine gx_callR C (kw_X4_at l hW 8 (Nat.le_of_ble_eq_true rfl) 20 rfl _) (isWS_in hW 19 (Nat.le_of_ble_eq_true rfl)) (isWS_row hW 8 (Nat.le_of_ble_eq_true rfl)) rfl (cwV 1 C.2.2.2.2.1 gX3_heatOfGlazeOn_X4_at rfl rfl rfl kdV_X4_at ⟨Nat.le_of_ble_eq_true rfl, Nat.le_of_ble_eq_true rfl⟩) rfl rfl (Nat.le_of_ble_eq_true rfl) ⟨Nat.le_of_ble_eq_true rfl, Nat.le_of_ble_eq_true rfl⟩ dX3_heatOfGlazeOn_8 ?_
  refine gx_imul C dX3_heatOfGlazeOn_11 ?_
  refine gx_iadd C dX3_heatOfGlazeOn_12 ?_
  exact gx_iretR C rfl hr dX3_heatOfGlazeOn_13 (congrArg Value.int (by rfl))
theorem kdN_X3_kindFired : yX3_kindFired.cls ≠ "java/lang/invoke/MethodHandle" ∧ yX3_kindFired.cls ≠ "java/lang/invoke/VarHandle" ∧ (parseMethodDescriptor yX3_kindFired.desc).map (fun d => d.parameters.length) = some 3 := by decide +kernel
theorem kdV_X3_kindFired : yX3_kindFired.cls = RX3 ∧ yX3_kindFired.cls ≠ "java/lang/invoke/MethodHandle" ∧ yX3_kindFired.cls ≠ "java/lang/invoke/VarHandle" ∧ (parseMethodDescriptor yX3_kindFired.desc).map (fun d => d.parameters.length) = some 3 := ⟨rfl, kdN_X3_kindFired⟩
theorem in_X3_kindFired_3 : ∀ w ∈ u_ws RX3 TX3 9, w ∈ wsX3_kindFired := by decide +kernel
theorem fl_X3_kindFired_23 : Cond.fieldLink RX3 23 (TX3 2).1 (TX3 2).2.1 (TX3 2).2.2.1 ∈ wsX3_kindFired := by decide +kernel
abbrev rmX3_kindFired : Room := { frames := 2, cells := 0, slots := 0, locals := 43 }
set_option maxHeartbeats 4000000 in
set_option maxRecDepth 100000 in
theorem k_X3_kindFired (l : Launch) {k : gK} {L : List Nat} {f : Nat → va_E} {a : Nat → Nat} {w : WS} (hW : isWS k L f a w) (q : Int32) (heat : Int32) (lim : Int32) : kR l k L f yX3_kindFired wsX3_kindFired rmX3_kindFired [.ref (a 2), .int q, .int heat, .int lim] (.int (cFired w q heat lim)) := by
  refine kR_of (cc := cX3_kindFired) (maxL := 5) (ret := (some .int)) (by decide) rfl (Nat.le_of_ble_eq_true rfl) ?_
  intro p e s m args below meth c C hr
  refine gx_lv [(0, _), (1, _), (2, _), (3, _)] [0, 1, 2, 3] rfl ?_
  refine gx_iload_n (q := 2) C dX3_kindFired_0 rfl ?_
  refine gx_aload_n (q := 0) C dX3_kindFired_1 rfl ?_
  refine gx_get C (i := 2) (isWS_in hW 2 (Nat.le_of_ble_eq_true rfl)) (isWS_2 hW) rfl in_X3_kindFired_3 (by decide) fl_X3_kindFired_23 rfl dX3_kindFired_2 ?_
  refine gx_iload_n (q := 1) C dX3_kindFired_5 rfl ?_
  refine gx_callR C (kw_X4_at l hW 4 (Nat.le_of_ble_eq_true rfl) 20 rfl _) (isWS_in hW 11 (Nat.le_of_ble_eq_true rfl)) (isWS_row hW 4 (Nat.le_of_ble_eq_true rfl)) rfl (cwV 1 C.2.2.2.2.1 gX3_kindFired_X4_at rfl rfl rfl kdV_X4_at ⟨Nat.le_of_ble_eq_true rfl, Nat.le_of_ble_eq_true rfl⟩) rfl rfl (Nat.le_of_ble_eq_true rfl) ⟨Nat.le_of_ble_eq_true rfl, Nat.le_of_ble_eq_true rfl⟩ dX3_kindFired_6 ?_
  refine gx_iadd C dX3_kindFired_9 ?_
  refine gx_iload_n (q := 3) C dX3_kindFired_10 rfl ?_
  refine gx_icmp_le (tgt := 16) C dX3_kindFired_11 (by decide) (fun c_11 => ?_) (fun c_11 => ?_)
  · skip
    refine gx_aload_n (q := 0) C dX3_kindFired_16 rfl ?_
    refine gx_iload_n (q := 1) C dX3_kindFired_17 rfl ?_
    refine gx_iconst (v := 0) C dX3_kindFired_18 (by decide) ?_
    refine gx_callR C (k_X3_isKind l hW _ _) (isWS_in hW 2 (Nat.le_of_ble_eq_true rfl)) (isWS_2 hW) rfl (cwV 2 C.2.2.2.2.1 gX3_kindFired_X3_isKind rfl rfl rfl kdV_X3_isKind ⟨Nat.le_of_ble_eq_true rfl, Nat.le_of_ble_eq_true rfl⟩) rfl rfl (Nat.le_of_ble_eq_true rfl) ⟨Nat.le_of_ble_eq_true rfl, Nat.le_of_ble_eq_true rfl⟩ dX3_kindFired_19 ?_
    refine gx_if_eq (tgt := 37) C dX3_kindFired_22 (by decide) (fun c_22 => ?_) (fun c_22 => ?_)
    · skip
      have h_22 := bI0.mp c_22
      refine gx_iload_n (q := 2) C dX3_kindFired_37 rfl ?_
      refine gx_aload_n (q := 0) C dX3_kindFired_38 rfl ?_
      refine gx_iload_n (q := 1) C dX3_kindFired_39 rfl ?_
      refine gx_callR C (k_X3_heatOfGlazeOn l hW _) (isWS_in hW 2 (Nat.le_of_ble_eq_true rfl)) (isWS_2 hW) rfl (cwV 1 C.2.2.2.2.1 gX3_kindFired_X3_heatOfGlazeOn rfl rfl rfl kdV_X3_heatOfGlazeOn ⟨Nat.le_of_ble_eq_true rfl, Nat.le_of_ble_eq_true rfl⟩) rfl rfl (Nat.le_of_ble_eq_true rfl) ⟨Nat.le_of_ble_eq_true rfl, Nat.le_of_ble_eq_true rfl⟩ dX3_kindFired_40 ?_
      refine gx_isub C dX3_kindFired_43 ?_
      refine gx_istore C [(4, _), (0, _), (1, _), (2, _), (3, _)] dX3_kindFired_44 (by decide) rfl ?_
      refine gx_iload (q := 0) C dX3_kindFired_46 rfl ?_
      refine gx_if_ge (tgt := 53) C dX3_kindFired_48 (by decide) (fun c_48 => ?_) (fun c_48 => ?_)
      · skip
        refine gx_iload (q := 0) C dX3_kindFired_53 rfl ?_
        refine gx_bipush (v := 10) C dX3_kindFired_55 (by decide) ?_
        refine gx_icmp_gt (tgt := 64) C dX3_kindFired_57 (by decide) (fun c_57 => ?_) (fun c_57 => ?_)
        · skip
          refine gx_iconst (v := 1) C dX3_kindFired_64 (by decide) ?_
          exact gx_iretR C rfl hr dX3_kindFired_65 (congrArg Value.int (by rw [cFired, if_neg (fun z => z c_11), if_neg (by rw [h_22]; decide), if_neg (fun z => z c_48), if_pos c_57]))
        · skip
          refine gx_iconst (v := 3) C dX3_kindFired_60 (by decide) ?_
          refine gx_goto (tgt := 65) C dX3_kindFired_61 (by decide) ?_
          exact gx_iretR C rfl hr dX3_kindFired_65 (congrArg Value.int (by rw [cFired, if_neg (fun z => z c_11), if_neg (by rw [h_22]; decide), if_neg (fun z => z c_48), if_neg c_57]))
      · skip
        refine gx_iconst (v := 2) C dX3_kindFired_51 (by decide) ?_
        exact gx_iretR C rfl hr dX3_kindFired_52 (congrArg Value.int (by rw [cFired, if_neg (fun z => z c_11), if_neg (by rw [h_22]; decide), if_pos c_48]))
    · skip
      have h_22 := bI1.mp c_22
      refine gx_iload_n (q := 2) C dX3_kindFired_25 rfl ?_
      refine gx_bipush (v := 95) C dX3_kindFired_26 (by decide) ?_
      refine gx_icmp_lt (tgt := 35) C dX3_kindFired_28 (by decide) (fun c_28 => ?_) (fun c_28 => ?_)
      · skip
        refine gx_iconst (v := 0) C dX3_kindFired_35 (by decide) ?_
        exact gx_iretR C rfl hr dX3_kindFired_36 (congrArg Value.int (by rw [cFired, if_neg (fun z => z c_11), if_pos h_22, if_pos c_28]))
      · skip
        refine gx_iconst (v := 1) C dX3_kindFired_31 (by decide) ?_
        refine gx_goto (tgt := 36) C dX3_kindFired_32 (by decide) ?_
        exact gx_iretR C rfl hr dX3_kindFired_36 (congrArg Value.int (by rw [cFired, if_neg (fun z => z c_11), if_pos h_22, if_neg c_28]))
  · skip
    refine gx_iconst (v := 4) C dX3_kindFired_14 (by decide) ?_
    exact gx_iretR C rfl hr dX3_kindFired_15 (congrArg Value.int (by rw [cFired, if_pos c_11]))
