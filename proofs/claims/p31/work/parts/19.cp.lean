theorem kdN_X0_copyFrom : yX0_copyFrom.cls ≠ "java/lang/invoke/MethodHandle" ∧ yX0_copyFrom.cls ≠ "java/lang/invoke/VarHandle" ∧ (parseMethodDescriptor yX0_copyFrom.desc).map (fun d => d.parameters.length) = some 1 := by decide +kernel
theorem kdV_X0_copyFrom : yX0_copyFrom.cls = RX0 ∧ yX0_copyFrom.cls ≠ "java/lang/invoke/MethodHandle" ∧ yX0_copyFrom.cls ≠ "java/lang/invoke/VarHandle" ∧ (parseMethodDescriptor yX0_copyFrom.desc).map (fun d => d.parameters.length) = some 1 := ⟨rfl, kdN_X0_copyFrom⟩
def wX0_copyFrom (w w2 : WS)  : WS := (wSc (wSc (wRow w 1 (va_cpy (w2.1 1) (w.1 1) 0 0 105)) 0 (w2.2 0)) 1 (w2.2 1))
theorem in_X0_copyFrom_0 : ∀ w ∈ u_ws RX0 TX0 3, w ∈ wsX0_copyFrom := by decide +kernel
theorem fl_X0_copyFrom_14 : Cond.fieldLink RX0 14 (TX0 0).1 (TX0 0).2.1 (TX0 0).2.2.1 ∈ wsX0_copyFrom := by decide +kernel
theorem fl_X0_copyFrom_24 : Cond.fieldLink RX0 24 (TX0 1).1 (TX0 1).2.1 (TX0 1).2.2.1 ∈ wsX0_copyFrom := by decide +kernel
theorem fl_X0_copyFrom_28 : Cond.fieldLink RX0 28 (TX0 2).1 (TX0 2).2.1 (TX0 2).2.2.1 ∈ wsX0_copyFrom := by decide +kernel
abbrev rmX0_copyFrom : Room := { frames := 2, cells := 0, slots := 0, locals := 61 }
set_option maxHeartbeats 4000000 in
set_option maxRecDepth 100000 in
theorem k_X0_copyFrom (l : Launch) {k : gK} {L : List Nat} {f : Nat → va_E} (hL : L.Nodup) {a b : Nat → Nat} {w w2 : WS} (hW : isWS k L f a w) (hB : isWS k L f b w2) (hBA : ∀ i j, i < 27 → j < 27 → b i ≠ a j)  : kM l k L f yX0_copyFrom wsX0_copyFrom rmX0_copyFrom [.ref (a 1), .ref (b 1)] (wP k L a f none (wX0_copyFrom w w2)) := by
  refine kM_of (cc := cX0_copyFrom) (maxL := 2) (ret := none) (by decide) rfl (Nat.le_of_ble_eq_true rfl) ?_
  intro p e s m args below meth c C hr
  have hD : gD (fun q => q ∈ L) L := ⟨hL, fun _ h => h⟩
  refine gx_lv [(0, _), (1, _)] [0, 1] rfl ?_
  refine gx_aload_n (q := 1) C dX0_copyFrom_0 rfl ?_
  refine gx_ifnonnull (tgt := 5) C dX0_copyFrom_1 (by decide) ?_
  refine gx_aload_n (q := 0) C dX0_copyFrom_5 rfl ?_
  refine gx_get C (i := 0) (isWS_in hW 1 (Nat.le_of_ble_eq_true rfl)) (isWS_1 hW) rfl in_X0_copyFrom_0 (by decide) fl_X0_copyFrom_14 rfl dX0_copyFrom_6 ?_
  refine gx_aload_n (q := 1) C dX0_copyFrom_9 rfl ?_
  refine gx_get C (i := 0) (isWS_in hB 1 (Nat.le_of_ble_eq_true rfl)) (isWS_1 hB) rfl in_X0_copyFrom_0 (by decide) fl_X0_copyFrom_14 rfl dX0_copyFrom_10 ?_
  refine gx_callWv C hD (gFr_rf (f := f)) (kw_X4_copyFrom l hL hW hB 1 (Nat.le_of_ble_eq_true rfl) 105 rfl) (isWS_in hW 5 (Nat.le_of_ble_eq_true rfl)) (isWS_row hW 1 (Nat.le_of_ble_eq_true rfl)) rfl (cwV 1 C.2.2.2.2.1 gX0_copyFrom_X4_copyFrom rfl rfl rfl kdV_X4_copyFrom ⟨Nat.le_of_ble_eq_true rfl, Nat.le_of_ble_eq_true rfl⟩) rfl rfl (Nat.le_of_ble_eq_true rfl) ⟨Nat.le_of_ble_eq_true rfl, Nat.le_of_ble_eq_true rfl⟩ dX0_copyFrom_13 (fun f_1 hW_1 hF_1 => ?_)
  have hB_1 := isWS_fr hB hF_1 hBA
  refine gx_aload_n (q := 0) C dX0_copyFrom_16 rfl ?_
  refine gx_aload_n (q := 1) C dX0_copyFrom_17 rfl ?_
  refine gx_get C (i := 1) (isWS_in hB_1 1 (Nat.le_of_ble_eq_true rfl)) (isWS_1 hB_1) rfl in_X0_copyFrom_0 (by decide) fl_X0_copyFrom_24 rfl dX0_copyFrom_18 ?_
  refine gx_put C hD (i := 1) (ty := .int) tyX0_ok nmX0 (isWS_in hW_1 1 (Nat.le_of_ble_eq_true rfl)) (isWS_1 hW_1) rfl in_X0_copyFrom_0 (by decide) fl_X0_copyFrom_24 rfl (by decide +kernel) rfl rfl (Nat.le_of_ble_eq_true rfl) rfl dX0_copyFrom_21 ?_
  refine gx_w0 hW_1 hF_1 (fun f_2 hW_2 hF_2 => ?_)
  have hB_2 := isWS_fr hB hF_2 hBA
  refine gx_aload_n (q := 0) C dX0_copyFrom_24 rfl ?_
  refine gx_aload_n (q := 1) C dX0_copyFrom_25 rfl ?_
  refine gx_get C (i := 2) (isWS_in hB_2 1 (Nat.le_of_ble_eq_true rfl)) (isWS_1 hB_2) rfl in_X0_copyFrom_0 (by decide) fl_X0_copyFrom_28 rfl dX0_copyFrom_26 ?_
  refine gx_put C hD (i := 2) (ty := .int) tyX0_ok nmX0 (isWS_in hW_2 1 (Nat.le_of_ble_eq_true rfl)) (isWS_1 hW_2) rfl in_X0_copyFrom_0 (by decide) fl_X0_copyFrom_28 rfl (by decide +kernel) rfl rfl (Nat.le_of_ble_eq_true rfl) rfl dX0_copyFrom_29 ?_
  refine gx_w1 hW_2 hF_2 (fun f_3 hW_3 hF_3 => ?_)
  have hB_3 := isWS_fr hB hF_3 hBA
  exact gx_vretW C hr hW_3 hF_3 dX0_copyFrom_32 (rfl).symm
theorem kdN_X3_copyFrom : yX3_copyFrom.cls ≠ "java/lang/invoke/MethodHandle" ∧ yX3_copyFrom.cls ≠ "java/lang/invoke/VarHandle" ∧ (parseMethodDescriptor yX3_copyFrom.desc).map (fun d => d.parameters.length) = some 1 := by decide +kernel
theorem kdV_X3_copyFrom : yX3_copyFrom.cls = RX3 ∧ yX3_copyFrom.cls ≠ "java/lang/invoke/MethodHandle" ∧ yX3_copyFrom.cls ≠ "java/lang/invoke/VarHandle" ∧ (parseMethodDescriptor yX3_copyFrom.desc).map (fun d => d.parameters.length) = some 1 := ⟨rfl, kdN_X3_copyFrom⟩
def wX3_copyFrom (w w2 : WS)  : WS := (wSc (wRow (wRow (wRow (wRow (wRow (wRow (wRow (wRow w 2 (va_cpy (w2.1 2) (w.1 2) 0 0 20)) 3 (va_cpy (w2.1 3) ((wRow w 2 (va_cpy (w2.1 2) (w.1 2) 0 0 20)).1 3) 0 0 20)) 4 (va_cpy (w2.1 4) ((wRow (wRow w 2 (va_cpy (w2.1 2) (w.1 2) 0 0 20)) 3 (va_cpy (w2.1 3) ((wRow w 2 (va_cpy (w2.1 2) (w.1 2) 0 0 20)).1 3) 0 0 20)).1 4) 0 0 20)) 5 (va_cpy (w2.1 5) ((wRow (wRow (wRow w 2 (va_cpy (w2.1 2) (w.1 2) 0 0 20)) 3 (va_cpy (w2.1 3) ((wRow w 2 (va_cpy (w2.1 2) (w.1 2) 0 0 20)).1 3) 0 0 20)) 4 (va_cpy (w2.1 4) ((wRow (wRow w 2 (va_cpy (w2.1 2) (w.1 2) 0 0 20)) 3 (va_cpy (w2.1 3) ((wRow w 2 (va_cpy (w2.1 2) (w.1 2) 0 0 20)).1 3) 0 0 20)).1 4) 0 0 20)).1 5) 0 0 20)) 6 (va_cpy (w2.1 6) ((wRow (wRow (wRow (wRow w 2 (va_cpy (w2.1 2) (w.1 2) 0 0 20)) 3 (va_cpy (w2.1 3) ((wRow w 2 (va_cpy (w2.1 2) (w.1 2) 0 0 20)).1 3) 0 0 20)) 4 (va_cpy (w2.1 4) ((wRow (wRow w 2 (va_cpy (w2.1 2) (w.1 2) 0 0 20)) 3 (va_cpy (w2.1 3) ((wRow w 2 (va_cpy (w2.1 2) (w.1 2) 0 0 20)).1 3) 0 0 20)).1 4) 0 0 20)) 5 (va_cpy (w2.1 5) ((wRow (wRow (wRow w 2 (va_cpy (w2.1 2) (w.1 2) 0 0 20)) 3 (va_cpy (w2.1 3) ((wRow w 2 (va_cpy (w2.1 2) (w.1 2) 0 0 20)).1 3) 0 0 20)) 4 (va_cpy (w2.1 4) ((wRow (wRow w 2 (va_cpy (w2.1 2) (w.1 2) 0 0 20)) 3 (va_cpy (w2.1 3) ((wRow w 2 (va_cpy (w2.1 2) (w.1 2) 0 0 20)).1 3) 0 0 20)).1 4) 0 0 20)).1 5) 0 0 20)).1 6) 0 0 20)) 7 (va_cpy (w2.1 7) ((wRow (wRow (wRow (wRow (wRow w 2 (va_cpy (w2.1 2) (w.1 2) 0 0 20)) 3 (va_cpy (w2.1 3) ((wRow w 2 (va_cpy (w2.1 2) (w.1 2) 0 0 20)).1 3) 0 0 20)) 4 (va_cpy (w2.1 4) ((wRow (wRow w 2 (va_cpy (w2.1 2) (w.1 2) 0 0 20)) 3 (va_cpy (w2.1 3) ((wRow w 2 (va_cpy (w2.1 2) (w.1 2) 0 0 20)).1 3) 0 0 20)).1 4) 0 0 20)) 5 (va_cpy (w2.1 5) ((wRow (wRow (wRow w 2 (va_cpy (w2.1 2) (w.1 2) 0 0 20)) 3 (va_cpy (w2.1 3) ((wRow w 2 (va_cpy (w2.1 2) (w.1 2) 0 0 20)).1 3) 0 0 20)) 4 (va_cpy (w2.1 4) ((wRow (wRow w 2 (va_cpy (w2.1 2) (w.1 2) 0 0 20)) 3 (va_cpy (w2.1 3) ((wRow w 2 (va_cpy (w2.1 2) (w.1 2) 0 0 20)).1 3) 0 0 20)).1 4) 0 0 20)).1 5) 0 0 20)) 6 (va_cpy (w2.1 6) ((wRow (wRow (wRow (wRow w 2 (va_cpy (w2.1 2) (w.1 2) 0 0 20)) 3 (va_cpy (w2.1 3) ((wRow w 2 (va_cpy (w2.1 2) (w.1 2) 0 0 20)).1 3) 0 0 20)) 4 (va_cpy (w2.1 4) ((wRow (wRow w 2 (va_cpy (w2.1 2) (w.1 2) 0 0 20)) 3 (va_cpy (w2.1 3) ((wRow w 2 (va_cpy (w2.1 2) (w.1 2) 0 0 20)).1 3) 0 0 20)).1 4) 0 0 20)) 5 (va_cpy (w2.1 5) ((wRow (wRow (wRow w 2 (va_cpy (w2.1 2) (w.1 2) 0 0 20)) 3 (va_cpy (w2.1 3) ((wRow w 2 (va_cpy (w2.1 2) (w.1 2) 0 0 20)).1 3) 0 0 20)) 4 (va_cpy (w2.1 4) ((wRow (wRow w 2 (va_cpy (w2.1 2) (w.1 2) 0 0 20)) 3 (va_cpy (w2.1 3) ((wRow w 2 (va_cpy (w2.1 2) (w.1 2) 0 0 20)).1 3) 0 0 20)).1 4) 0 0 20)).1 5) 0 0 20)).1 6) 0 0 20)).1 7) 0 0 20)) 8 (va_cpy (w2.1 8) ((wRow (wRow (wRow (wRow (wRow (wRow w 2 (va_cpy (w2.1 2) (w.1 2) 0 0 20)) 3 (va_cpy (w2.1 3) ((wRow w 2 (va_cpy (w2.1 2) (w.1 2) 0 0 20)).1 3) 0 0 20)) 4 (va_cpy (w2.1 4) ((wRow (wRow w 2 (va_cpy (w2.1 2) (w.1 2) 0 0 20)) 3 (va_cpy (w2.1 3) ((wRow w 2 (va_cpy (w2.1 2) (w.1 2) 0 0 20)).1 3) 0 0 20)).1 4) 0 0 20)) 5 (va_cpy (w2.1 5) ((wRow (wRow (wRow w 2 (va_cpy (w2.1 2) (w.1 2) 0 0 20)) 3 (va_cpy (w2.1 3) ((wRow w 2 (va_cpy (w2.1 2) (w.1 2) 0 0 20)).1 3) 0 0 20)) 4 (va_cpy (w2.1 4) ((wRow (wRow w 2 (va_cpy (w2.1 2) (w.1 2) 0 0 20)) 3 (va_cpy (w2.1 3) ((wRow w 2 (va_cpy (w2.1 2) (w.1 2) 0 0 20)).1 3) 0 0 20)).1 4) 0 0 20)).1 5) 0 0 20)) 6 (va_cpy (w2.1 6) ((wRow (wRow (wRow (wRow w 2 (va_cpy (w2.1 2) (w.1 2) 0 0 20)) 3 (va_cpy (w2.1 3) ((wRow w 2 (va_cpy (w2.1 2) (w.1 2) 0 0 20)).1 3) 0 0 20)) 4 (va_cpy (w2.1 4) ((wRow (wRow w 2 (va_cpy (w2.1 2) (w.1 2) 0 0 20)) 3 (va_cpy (w2.1 3) ((wRow w 2 (va_cpy (w2.1 2) (w.1 2) 0 0 20)).1 3) 0 0 20)).1 4) 0 0 20)) 5 (va_cpy (w2.1 5) ((wRow (wRow (wRow w 2 (va_cpy (w2.1 2) (w.1 2) 0 0 20)) 3 (va_cpy (w2.1 3) ((wRow w 2 (va_cpy (w2.1 2) (w.1 2) 0 0 20)).1 3) 0 0 20)) 4 (va_cpy (w2.1 4) ((wRow (wRow w 2 (va_cpy (w2.1 2) (w.1 2) 0 0 20)) 3 (va_cpy (w2.1 3) ((wRow w 2 (va_cpy (w2.1 2) (w.1 2) 0 0 20)).1 3) 0 0 20)).1 4) 0 0 20)).1 5) 0 0 20)).1 6) 0 0 20)) 7 (va_cpy (w2.1 7) ((wRow (wRow (wRow (wRow (wRow w 2 (va_cpy (w2.1 2) (w.1 2) 0 0 20)) 3 (va_cpy (w2.1 3) ((wRow w 2 (va_cpy (w2.1 2) (w.1 2) 0 0 20)).1 3) 0 0 20)) 4 (va_cpy (w2.1 4) ((wRow (wRow w 2 (va_cpy (w2.1 2) (w.1 2) 0 0 20)) 3 (va_cpy (w2.1 3) ((wRow w 2 (va_cpy (w2.1 2) (w.1 2) 0 0 20)).1 3) 0 0 20)).1 4) 0 0 20)) 5 (va_cpy (w2.1 5) ((wRow (wRow (wRow w 2 (va_cpy (w2.1 2) (w.1 2) 0 0 20)) 3 (va_cpy (w2.1 3) ((wRow w 2 (va_cpy (w2.1 2) (w.1 2) 0 0 20)).1 3) 0 0 20)) 4 (va_cpy (w2.1 4) ((wRow (wRow w 2 (va_cpy (w2.1 2) (w.1 2) 0 0 20)) 3 (va_cpy (w2.1 3) ((wRow w 2 (va_cpy (w2.1 2) (w.1 2) 0 0 20)).1 3) 0 0 20)).1 4) 0 0 20)).1 5) 0 0 20)) 6 (va_cpy (w2.1 6) ((wRow (wRow (wRow (wRow w 2 (va_cpy (w2.1 2) (w.1 2) 0 0 20)) 3 (va_cpy (w2.1 3) ((wRow w 2 (va_cpy (w2.1 2) (w.1 2) 0 0 20)).1 3) 0 0 20)) 4 (va_cpy (w2.1 4) ((wRow (wRow w 2 (va_cpy (w2.1 2) (w.1 2) 0 0 20)) 3 (va_cpy (w2.1 3) ((wRow w 2 (va_cpy (w2.1 2) (w.1 2) 0 0 20)).1 3) 0 0 20)).1 4) 0 0 20)) 5 (va_cpy (w2.1 5) ((wRow (wRow (wRow w 2 (va_cpy (w2.1 2) (w.1 2) 0 0 20)) 3 (va_cpy (w2.1 3) ((wRow w 2 (va_cpy (w2.1 2) (w.1 2) 0 0 20)).1 3) 0 0 20)) 4 (va_cpy (w2.1 4) ((wRow (wRow w 2 (va_cpy (w2.1 2) (w.1 2) 0 0 20)) 3 (va_cpy (w2.1 3) ((wRow w 2 (va_cpy (w2.1 2) (w.1 2) 0 0 20)).1 3) 0 0 20)).1 4) 0 0 20)).1 5) 0 0 20)).1 6) 0 0 20)).1 7) 0 0 20)).1 8) 0 0 20)) 9 (va_cpy (w2.1 9) ((wRow (wRow (wRow (wRow (wRow (wRow (wRow w 2 (va_cpy (w2.1 2) (w.1 2) 0 0 20)) 3 (va_cpy (w2.1 3) ((wRow w 2 (va_cpy (w2.1 2) (w.1 2) 0 0 20)).1 3) 0 0 20)) 4 (va_cpy (w2.1 4) ((wRow (wRow w 2 (va_cpy (w2.1 2) (w.1 2) 0 0 20)) 3 (va_cpy (w2.1 3) ((wRow w 2 (va_cpy (w2.1 2) (w.1 2) 0 0 20)).1 3) 0 0 20)).1 4) 0 0 20)) 5 (va_cpy (w2.1 5) ((wRow (wRow (wRow w 2 (va_cpy (w2.1 2) (w.1 2) 0 0 20)) 3 (va_cpy (w2.1 3) ((wRow w 2 (va_cpy (w2.1 2) (w.1 2) 0 0 20)).1 3) 0 0 20)) 4 (va_cpy (w2.1 4) ((wRow (wRow w 2 (va_cpy (w2.1 2) (w.1 2) 0 0 20)) 3 (va_cpy (w2.1 3) ((wRow w 2 (va_cpy (w2.1 2) (w.1 2) 0 0 20)).1 3) 0 0 20)).1 4) 0 0 20)).1 5) 0 0 20)) 6 (va_cpy (w2.1 6) ((wRow (wRow (wRow (wRow w 2 (va_cpy (w2.1 2) (w.1 2) 0 0 20)) 3 (va_cpy (w2.1 3) ((wRow w 2 (va_cpy (w2.1 2) (w.1 2) 0 0 20)).1 3) 0 0 20)) 4 (va_cpy (w2.1 4) ((wRow (wRow w 2 (va_cpy (w2.1 2) (w.1 2) 0 0 20)) 3 (va_cpy (w2.1 3) ((wRow w 2 (va_cpy (w2.1 2) (w.1 2) 0 0 20)).1 3) 0 0 20)).1 4) 0 0 20)) 5 (va_cpy (w2.1 5) ((wRow (wRow (wRow w 2 (va_cpy (w2.1 2) (w.1 2) 0 0 20)) 3 (va_cpy (w2.1 3) ((wRow w 2 (va_cpy (w2.1 2) (w.1 2) 0 0 20)).1 3) 0 0 20)) 4 (va_cpy (w2.1 4) ((wRow (wRow w 2 (va_cpy (w2.1 2) (w.1 2) 0 0 20)) 3 (va_cpy (w2.1 3) ((wRow w 2 (va_cpy (w2.1 2) (w.1 2) 0 0 20)).1 3) 0 0 20)).1 4) 0 0 20)).1 5) 0 0 20)).1 6) 0 0 20)) 7 (va_cpy (w2.1 7) ((wRow (wRow (wRow (wRow (wRow w 2 (va_cpy (w2.1 2) (w.1 2) 0 0 20)) 3 (va_cpy (w2.1 3) ((wRow w 2 (va_cpy (w2.1 2) (w.1 2) 0 0 20)).1 3) 0 0 20)) 4 (va_cpy (w2.1 4) ((wRow (wRow w 2 (va_cpy (w2.1 2) (w.1 2) 0 0 20)) 3 (va_cpy (w2.1 3) ((wRow w 2 (va_cpy (w2.1 2) (w.1 2) 0 0 20)).1 3) 0 0 20)).1 4) 0 0 20)) 5 (va_cpy (w2.1 5) ((wRow (wRow (wRow w 2 (va_cpy (w2.1 2) (w.1 2) 0 0 20)) 3 (va_cpy (w2.1 3) ((wRow w 2 (va_cpy (w2.1 2) (w.1 2) 0 0 20)).1 3) 0 0 20)) 4 (va_cpy (w2.1 4) ((wRow (wRow w 2 (va_cpy (w2.1 2) (w.1 2) 0 0 20)) 3 (va_cpy (w2.1 3) ((wRow w 2 (va_cpy (w2.1 2) (w.1 2) 0 0 20)).1 3) 0 0 20)).1 4) 0 0 20)).1 5) 0 0 20)) 6 (va_cpy (w2.1 6) ((wRow (wRow (wRow (wRow w 2 (va_cpy (w2.1 2) (w.1 2) 0 0 20)) 3 (va_cpy (w2.1 3) ((wRow w 2 (va_cpy (w2.1 2) (w.1 2) 0 0 20)).1 3) 0 0 20)) 4 (va_cpy (w2.1 4) ((wRow (wRow w 2 (va_cpy (w2.1 2) (w.1 2) 0 0 20)) 3 (va_cpy (w2.1 3) ((wRow w 2 (va_cpy (w2.1 2) (w.1 2) 0 0 20)).1 3) 0 0 20)).1 4) 0 0 20)) 5 (va_cpy (w2.1 5) ((wRow (wRow (wRow w 2 (va_cpy (w2.1 2) (w.1 2) 0 0 20)) 3 (va_cpy (w2.1 3) ((wRow w 2 (va_cpy (w2.1 2) (w.1 2) 0 0 20)).1 3) 0 0 20)) 4 (va_cpy (w2.1 4) ((wRow (wRow w 2 (va_cpy (w2.1 2) (w.1 2) 0 0 20)) 3 (va_cpy (w2.1 3) ((wRow w 2 (va_cpy (w2.1 2) (w.1 2) 0 0 20)).1 3) 0 0 20)).1 4) 0 0 20)).1 5) 0 0 20)).1 6) 0 0 20)).1 7) 0 0 20)) 8 (va_cpy (w2.1 8) ((wRow (wRow (wRow (wRow (wRow (wRow w 2 (va_cpy (w2.1 2) (w.1 2) 0 0 20)) 3 (va_cpy (w2.1 3) ((wRow w 2 (va_cpy (w2.1 2) (w.1 2) 0 0 20)).1 3) 0 0 20)) 4 (va_cpy (w2.1 4) ((wRow (wRow w 2 (va_cpy (w2.1 2) (w.1 2) 0 0 20)) 3 (va_cpy (w2.1 3) ((wRow w 2 (va_cpy (w2.1 2) (w.1 2) 0 0 20)).1 3) 0 0 20)).1 4) 0 0 20)) 5 (va_cpy (w2.1 5) ((wRow (wRow (wRow w 2 (va_cpy (w2.1 2) (w.1 2) 0 0 20)) 3 (va_cpy (w2.1 3) ((wRow w 2 (va_cpy (w2.1 2) (w.1 2) 0 0 20)).1 3) 0 0 20)) 4 (va_cpy (w2.1 4) ((wRow (wRow w 2 (va_cpy (w2.1 2) (w.1 2) 0 0 20)) 3 (va_cpy (w2.1 3) ((wRow w 2 (va_cpy (w2.1 2) (w.1 2) 0 0 20)).1 3) 0 0 20)).1 4) 0 0 20)).1 5) 0 0 20)) 6 (va_cpy (w2.1 6) ((wRow (wRow (wRow (wRow w 2 (va_cpy (w2.1 2) (w.1 2) 0 0 20)) 3 (va_cpy (w2.1 3) ((wRow w 2 (va_cpy (w2.1 2) (w.1 2) 0 0 20)).1 3) 0 0 20)) 4 (va_cpy (w2.1 4) ((wRow (wRow w 2 (va_cpy (w2.1 2) (w.1 2) 0 0 20)) 3 (va_cpy (w2.1 3) ((wRow w 2 (va_cpy (w2.1 2) (w.1 2) 0 0 20)).1 3) 0 0 20)).1 4) 0 0 20)) 5 (va_cpy (w2.1 5) ((wRow (wRow (wRow w 2 (va_cpy (w2.1 2) (w.1 2) 0 0 20)) 3 (va_cpy (w2.1 3) ((wRow w 2 (va_cpy (w2.1 2) (w.1 2) 0 0 20)).1 3) 0 0 20)) 4 (va_cpy (w2.1 4) ((wRow (wRow w 2 (va_cpy (w2.1 2) (w.1 2) 0 0 20)) 3 (va_cpy (w2.1 3) ((wRow w 2 (va_cpy (w2.1 2) (w.1 2) 0 0 20)).1 3) 0 0 20)).1 4) 0 0 20)).1 5) 0 0 20)).1 6) 0 0 20)) 7 (va_cpy (w2.1 7) ((wRow (wRow (wRow (wRow (wRow w 2 (va_cpy (w2.1 2) (w.1 2) 0 0 20)) 3 (va_cpy (w2.1 3) ((wRow w 2 (va_cpy (w2.1 2) (w.1 2) 0 0 20)).1 3) 0 0 20)) 4 (va_cpy (w2.1 4) ((wRow (wRow w 2 (va_cpy (w2.1 2) (w.1 2) 0 0 20)) 3 (va_cpy (w2.1 3) ((wRow w 2 (va_cpy (w2.1 2) (w.1 2) 0 0 20)).1 3) 0 0 20)).1 4) 0 0 20)) 5 (va_cpy (w2.1 5) ((wRow (wRow (wRow w 2 (va_cpy (w2.1 2) (w.1 2) 0 0 20)) 3 (va_cpy (w2.1 3) ((wRow w 2 (va_cpy (w2.1 2) (w.1 2) 0 0 20)).1 3) 0 0 20)) 4 (va_cpy (w2.1 4) ((wRow (wRow w 2 (va_cpy (w2.1 2) (w.1 2) 0 0 20)) 3 (va_cpy (w2.1 3) ((wRow w 2 (va_cpy (w2.1 2) (w.1 2) 0 0 20)).1 3) 0 0 20)).1 4) 0 0 20)).1 5) 0 0 20)) 6 (va_cpy (w2.1 6) ((wRow (wRow (wRow (wRow w 2 (va_cpy (w2.1 2) (w.1 2) 0 0 20)) 3 (va_cpy (w2.1 3) ((wRow w 2 (va_cpy (w2.1 2) (w.1 2) 0 0 20)).1 3) 0 0 20)) 4 (va_cpy (w2.1 4) ((wRow (wRow w 2 (va_cpy (w2.1 2) (w.1 2) 0 0 20)) 3 (va_cpy (w2.1 3) ((wRow w 2 (va_cpy (w2.1 2) (w.1 2) 0 0 20)).1 3) 0 0 20)).1 4) 0 0 20)) 5 (va_cpy (w2.1 5) ((wRow (wRow (wRow w 2 (va_cpy (w2.1 2) (w.1 2) 0 0 20)) 3 (va_cpy (w2.1 3) ((wRow w 2 (va_cpy (w2.1 2) (w.1 2) 0 0 20)).1 3) 0 0 20)) 4 (va_cpy (w2.1 4) ((wRow (wRow w 2 (va_cpy (w2.1 2) (w.1 2) 0 0 20)) 3 (va_cpy (w2.1 3) ((wRow w 2 (va_cpy (w2.1 2) (w.1 2) 0 0 20)).1 3) 0 0 20)).1 4) 0 0 20)).1 5) 0 0 20)).1 6) 0 0 20)).1 7) 0 0 20)).1 8) 0 0 20)).1 9) 0 0 20)) 2 (w2.2 2))
theorem in_X3_copyFrom_3 : ∀ w ∈ u_ws RX3 TX3 9, w ∈ wsX3_copyFrom := by decide +kernel
theorem fl_X3_copyFrom_14 : Cond.fieldLink RX3 14 (TX3 0).1 (TX3 0).2.1 (TX3 0).2.2.1 ∈ wsX3_copyFrom := by decide +kernel
theorem fl_X3_copyFrom_20 : Cond.fieldLink RX3 20 (TX3 1).1 (TX3 1).2.1 (TX3 1).2.2.1 ∈ wsX3_copyFrom := by decide +kernel
theorem fl_X3_copyFrom_23 : Cond.fieldLink RX3 23 (TX3 2).1 (TX3 2).2.1 (TX3 2).2.2.1 ∈ wsX3_copyFrom := by decide +kernel
theorem fl_X3_copyFrom_26 : Cond.fieldLink RX3 26 (TX3 3).1 (TX3 3).2.1 (TX3 3).2.2.1 ∈ wsX3_copyFrom := by decide +kernel
theorem fl_X3_copyFrom_29 : Cond.fieldLink RX3 29 (TX3 4).1 (TX3 4).2.1 (TX3 4).2.2.1 ∈ wsX3_copyFrom := by decide +kernel
theorem fl_X3_copyFrom_32 : Cond.fieldLink RX3 32 (TX3 5).1 (TX3 5).2.1 (TX3 5).2.2.1 ∈ wsX3_copyFrom := by decide +kernel
theorem fl_X3_copyFrom_35 : Cond.fieldLink RX3 35 (TX3 6).1 (TX3 6).2.1 (TX3 6).2.2.1 ∈ wsX3_copyFrom := by decide +kernel
theorem fl_X3_copyFrom_38 : Cond.fieldLink RX3 38 (TX3 7).1 (TX3 7).2.1 (TX3 7).2.2.1 ∈ wsX3_copyFrom := by decide +kernel
theorem fl_X3_copyFrom_45 : Cond.fieldLink RX3 45 (TX3 8).1 (TX3 8).2.1 (TX3 8).2.2.1 ∈ wsX3_copyFrom := by decide +kernel
abbrev rmX3_copyFrom : Room := { frames := 2, cells := 0, slots := 0, locals := 61 }
set_option maxHeartbeats 4000000 in
set_option maxRecDepth 100000 in
theorem k_X3_copyFrom (l : Launch) {k : gK} {L : List Nat} {f : Nat → va_E} (hL : L.Nodup) {a b : Nat → Nat} {w w2 : WS} (hW : isWS k L f a w) (hB : isWS k L f b w2) (hBA : ∀ i j, i < 27 → j < 27 → b i ≠ a j)  : kM l k L f yX3_copyFrom wsX3_copyFrom rmX3_copyFrom [.ref (a 2), .ref (b 2)] (wP k L a f none (wX3_copyFrom w w2)) := by
  refine kM_of (cc := cX3_copyFrom) (maxL := 2) (ret := none) (by decide) rfl (Nat.le_of_ble_eq_true rfl) ?_
  intro p e s m args below meth c C hr
  have hD : gD (fun q => q ∈ L) L := ⟨hL, fun _ h => h⟩
  refine gx_lv [(0, _), (1, _)] [0, 1] rfl ?_
  refine gx_aload_n (q := 1) C dX3_copyFrom_0 rfl ?_
  refine gx_ifnonnull (tgt := 5) C dX3_copyFrom_1 (by decide) ?_
  refine gx_aload_n (q := 0) C dX3_copyFrom_5 rfl ?_
  refine gx_get C (i := 0) (isWS_in hW 2 (Nat.le_of_ble_eq_true rfl)) (isWS_2 hW) rfl in_X3_copyFrom_3 (by decide) fl_X3_copyFrom_14 rfl dX3_copyFrom_6 ?_
  refine gx_aload_n (q := 1) C dX3_copyFrom_9 rfl ?_
  refine gx_get C (i := 0) (isWS_in hB 2 (Nat.le_of_ble_eq_true rfl)) (isWS_2 hB) rfl in_X3_copyFrom_3 (by decide) fl_X3_copyFrom_14 rfl dX3_copyFrom_10 ?_
  refine gx_callWv C hD (gFr_rf (f := f)) (kw_X4_copyFrom l hL hW hB 2 (Nat.le_of_ble_eq_true rfl) 20 rfl) (isWS_in hW 7 (Nat.le_of_ble_eq_true rfl)) (isWS_row hW 2 (Nat.le_of_ble_eq_true rfl)) rfl (cwV 1 C.2.2.2.2.1 gX3_copyFrom_X4_copyFrom rfl rfl rfl kdV_X4_copyFrom ⟨Nat.le_of_ble_eq_true rfl, Nat.le_of_ble_eq_true rfl⟩) rfl rfl (Nat.le_of_ble_eq_true rfl) ⟨Nat.le_of_ble_eq_true rfl, Nat.le_of_ble_eq_true rfl⟩ dX3_copyFrom_13 (fun f_1 hW_1 hF_1 => ?_)
  have hB_1 := isWS_fr hB hF_1 hBA
  refine gx_aload_n (q := 0) C dX3_copyFrom_16 rfl ?_
  refine gx_get C (i := 1) (isWS_in hW_1 2 (Nat.le_of_ble_eq_true rfl)) (isWS_2 hW_1) rfl in_X3_copyFrom_3 (by decide) fl_X3_copyFrom_20 rfl dX3_copyFrom_17 ?_
  refine gx_aload_n (q := 1) C dX3_copyFrom_20 rfl ?_
  refine gx_get C (i := 1) (isWS_in hB_1 2 (Nat.le_of_ble_eq_true rfl)) (isWS_2 hB_1) rfl in_X3_copyFrom_3 (by decide) fl_X3_copyFrom_20 rfl dX3_copyFrom_21 ?_
  refine gx_callWv C hD hF_1 (kw_X4_copyFrom l hL hW_1 hB_1 3 (Nat.le_of_ble_eq_true rfl) 20 rfl) (isWS_in hW_1 9 (Nat.le_of_ble_eq_true rfl)) (isWS_row hW_1 3 (Nat.le_of_ble_eq_true rfl)) rfl (cwV 1 C.2.2.2.2.1 gX3_copyFrom_X4_copyFrom rfl rfl rfl kdV_X4_copyFrom ⟨Nat.le_of_ble_eq_true rfl, Nat.le_of_ble_eq_true rfl⟩) rfl rfl (Nat.le_of_ble_eq_true rfl) ⟨Nat.le_of_ble_eq_true rfl, Nat.le_of_ble_eq_true rfl⟩ dX3_copyFrom_24 (fun f_2 hW_2 hF_2 => ?_)
  have hB_2 := isWS_fr hB hF_2 hBA
  refine gx_aload_n (q := 0) C dX3_copyFrom_27 rfl ?_
  refine gx_get C (i := 2) (isWS_in hW_2 2 (Nat.le_of_ble_eq_true rfl)) (isWS_2 hW_2) rfl in_X3_copyFrom_3 (by decide) fl_X3_copyFrom_23 rfl dX3_copyFrom_28 ?_
  refine gx_aload_n (q := 1) C dX3_copyFrom_31 rfl ?_
  refine gx_get C (i := 2) (isWS_in hB_2 2 (Nat.le_of_ble_eq_true rfl)) (isWS_2 hB_2) rfl in_X3_copyFrom_3 (by decide) fl_X3_copyFrom_23 rfl dX3_copyFrom_32 ?_
  refine gx_callWv C hD hF_2 (kw_X4_copyFrom l hL hW_2 hB_2 4 (Nat.le_of_ble_eq_true rfl) 20 rfl) (isWS_in hW_2 11 (Nat.le_of_ble_eq_true rfl)) (isWS_row hW_2 4 (Nat.le_of_ble_eq_true rfl)) rfl (cwV 1 C.2.2.2.2.1 gX3_copyFrom_X4_copyFrom rfl rfl rfl kdV_X4_copyFrom ⟨Nat.le_of_ble_eq_true rfl, Nat.le_of_ble_eq_true rfl⟩) rfl rfl (Nat.le_of_ble_eq_true rfl) ⟨Nat.le_of_ble_eq_true rfl, Nat.le_of_ble_eq_true rfl⟩ dX3_copyFrom_35 (fun f_3 hW_3 hF_3 => ?_)
  have hB_3 := isWS_fr hB hF_3 hBA
  refine gx_aload_n (q := 0) C dX3_copyFrom_38 rfl ?_
  refine gx_get C (i := 3) (isWS_in hW_3 2 (Nat.le_of_ble_eq_true rfl)) (isWS_2 hW_3) rfl in_X3_copyFrom_3 (by decide) fl_X3_copyFrom_26 rfl dX3_copyFrom_39 ?_
  refine gx_aload_n (q := 1) C dX3_copyFrom_42 rfl ?_
  refine gx_get C (i := 3) (isWS_in hB_3 2 (Nat.le_of_ble_eq_true rfl)) (isWS_2 hB_3) rfl in_X3_copyFrom_3 (by decide) fl_X3_copyFrom_26 rfl dX3_copyFrom_43 ?_
  refine gx_callWv C hD hF_3 (kw_X4_copyFrom l hL hW_3 hB_3 5 (Nat.le_of_ble_eq_true rfl) 20 rfl) (isWS_in hW_3 13 (Nat.le_of_ble_eq_true rfl)) (isWS_row hW_3 5 (Nat.le_of_ble_eq_true rfl)) rfl (cwV 1 C.2.2.2.2.1 gX3_copyFrom_X4_copyFrom rfl rfl rfl kdV_X4_copyFrom ⟨Nat.le_of_ble_eq_true rfl, Nat.le_of_ble_eq_true rfl⟩) rfl rfl (Nat.le_of_ble_eq_true rfl) ⟨Nat.le_of_ble_eq_true rfl, Nat.le_of_ble_eq_true rfl⟩ dX3_copyFrom_46 (fun f_4 hW_4 hF_4 => ?_)
  have hB_4 := isWS_fr hB hF_4 hBA
  refine gx_aload_n (q := 0) C dX3_copyFrom_49 rfl ?_
  refine gx_get C (i := 4) (isWS_in hW_4 2 (Nat.le_of_ble_eq_true rfl)) (isWS_2 hW_4) rfl in_X3_copyFrom_3 (by decide) fl_X3_copyFrom_29 rfl dX3_copyFrom_50 ?_
  refine gx_aload_n (q := 1) C dX3_copyFrom_53 rfl ?_
  refine gx_get C (i := 4) (isWS_in hB_4 2 (Nat.le_of_ble_eq_true rfl)) (isWS_2 hB_4) rfl in_X3_copyFrom_3 (by decide) fl_X3_copyFrom_29 rfl dX3_copyFrom_54 ?_
  refine gx_callWv C hD hF_4 (kw_X4_copyFrom l hL hW_4 hB_4 6 (Nat.le_of_ble_eq_true rfl) 20 rfl) (isWS_in hW_4 15 (Nat.le_of_ble_eq_true rfl)) (isWS_row hW_4 6 (Nat.le_of_ble_eq_true rfl)) rfl (cwV 1 C.2.2.2.2.1 gX3_copyFrom_X4_copyFrom rfl rfl rfl kdV_X4_copyFrom ⟨Nat.le_of_ble_eq_true rfl, Nat.le_of_ble_eq_true rfl⟩) rfl rfl (Nat.le_of_ble_eq_true rfl) ⟨Nat.le_of_ble_eq_true rfl, Nat.le_of_ble_eq_true rfl⟩ dX3_copyFrom_57 (fun f_5 hW_5 hF_5 => ?_)
  have hB_5 := isWS_fr hB hF_5 hBA
  refine gx_aload_n (q := 0) C dX3_copyFrom_60 rfl ?_
  refine gx_get C (i := 5) (isWS_in hW_5 2 (Nat.le_of_ble_eq_true rfl)) (isWS_2 hW_5) rfl in_X3_copyFrom_3 (by decide) fl_X3_copyFrom_32 rfl dX3_copyFrom_61 ?_
  refine gx_aload_n (q := 1) C dX3_copyFrom_64 rfl ?_
  refine gx_get C (i := 5) (isWS_in hB_5 2 (Nat.le_of_ble_eq_true rfl)) (isWS_2 hB_5) rfl in_X3_copyFrom_3 (by decide) fl_X3_copyFrom_32 rfl dX3_copyFrom_65 ?_
  refine gx_callWv C hD hF_5 (kw_X4_copyFrom l hL hW_5 hB_5 7 (Nat.le_of_ble_eq_true rfl) 20 rfl) (isWS_in hW_5 17 (Nat.le_of_ble_eq_true rfl)) (isWS_row hW_5 7 (Nat.le_of_ble_eq_true rfl)) rfl (cwV 1 C.2.2.2.2.1 gX3_copyFrom_X4_copyFrom rfl rfl rfl kdV_X4_copyFrom ⟨Nat.le_of_ble_eq_true rfl, Nat.le_of_ble_eq_true rfl⟩) rfl rfl (Nat.le_of_ble_eq_true rfl) ⟨Nat.le_of_ble_eq_true rfl, Nat.le_of_ble_eq_true rfl⟩ dX3_copyFrom_68 (fun f_6 hW_6 hF_6 => ?_)
  have hB_6 := isWS_fr hB hF_6 hBA
  refine gx_aload_n (q := 0) C dX3_copyFrom_71 rfl ?_
  refine gx_get C (i := 6) (isWS_in hW_6 2 (Nat.le_of_ble_eq_true rfl)) (isWS_2 hW_6) rfl in_X3_copyFrom_3 (by decide) fl_X3_copyFrom_35 rfl dX3_copyFrom_72 ?_
  refine gx_aload_n (q := 1) C dX3_copyFrom_75 rfl ?_
  refine gx_get C (i := 6) (isWS_in hB_6 2 (Nat.le_of_ble_eq_true rfl)) (isWS_2 hB_6) rfl in_X3_copyFrom_3 (by decide) fl_X3_copyFrom_35 rfl dX3_copyFrom_76 ?_
  refine gx_callWv C hD hF_6 (kw_X4_copyFrom l hL hW_6 hB_6 8 (Nat.le_of_ble_eq_true rfl) 20 rfl) (isWS_in hW_6 19 (Nat.le_of_ble_eq_true rfl)) (isWS_row hW_6 8 (Nat.le_of_ble_eq_true rfl)) rfl (cwV 1 C.2.2.2.2.1 gX3_copyFrom_X4_copyFrom rfl rfl rfl kdV_X4_copyFrom ⟨Nat.le_of_ble_eq_true rfl, Nat.le_of_ble_eq_true rfl⟩) rfl rfl (Nat.le_of_ble_eq_true rfl) ⟨Nat.le_of_ble_eq_true rfl, Nat.le_of_ble_eq_true rfl⟩ dX3_copyFrom_79 (fun f_7 hW_7 hF_7 => ?_)
  have hB_7 := isWS_fr hB hF_7 hBA
  refine gx_aload_n (q := 0) C dX3_copyFrom_82 rfl ?_
  refine gx_get C (i := 7) (isWS_in hW_7 2 (Nat.le_of_ble_eq_true rfl)) (isWS_2 hW_7) rfl in_X3_copyFrom_3 (by decide) fl_X3_copyFrom_38 rfl dX3_copyFrom_83 ?_
  refine gx_aload_n (q := 1) C dX3_copyFrom_86 rfl ?_
  refine gx_get C (i := 7) (isWS_in hB_7 2 (Nat.le_of_ble_eq_true rfl)) (isWS_2 hB_7) rfl in_X3_copyFrom_3 (by decide) fl_X3_copyFrom_38 rfl dX3_copyFrom_87 ?_
  refine gx_callWv C hD hF_7 (kw_X4_copyFrom l hL hW_7 hB_7 9 (Nat.le_of_ble_eq_true rfl) 20 rfl) (isWS_in hW_7 21 (Nat.le_of_ble_eq_true rfl)) (isWS_row hW_7 9 (Nat.le_of_ble_eq_true rfl)) rfl (cwV 1 C.2.2.2.2.1 gX3_copyFrom_X4_copyFrom rfl rfl rfl kdV_X4_copyFrom ⟨Nat.le_of_ble_eq_true rfl, Nat.le_of_ble_eq_true rfl⟩) rfl rfl (Nat.le_of_ble_eq_true rfl) ⟨Nat.le_of_ble_eq_true rfl, Nat.le_of_ble_eq_true rfl⟩ dX3_copyFrom_90 (fun f_8 hW_8 hF_8 => ?_)
  have hB_8 := isWS_fr hB hF_8 hBA
  refine gx_aload_n (q := 0) C dX3_copyFrom_93 rfl ?_
  refine gx_aload_n (q := 1) C dX3_copyFrom_94 rfl ?_
  refine gx_get C (i := 8) (isWS_in hB_8 2 (Nat.le_of_ble_eq_true rfl)) (isWS_2 hB_8) rfl in_X3_copyFrom_3 (by decide) fl_X3_copyFrom_45 rfl dX3_copyFrom_95 ?_
  refine gx_put C hD (i := 8) (ty := .int) tyX3_ok nmX3 (isWS_in hW_8 2 (Nat.le_of_ble_eq_true rfl)) (isWS_2 hW_8) rfl in_X3_copyFrom_3 (by decide) fl_X3_copyFrom_45 rfl (by decide +kernel) rfl rfl (Nat.le_of_ble_eq_true rfl) rfl dX3_copyFrom_98 ?_
  refine gx_w2 hW_8 hF_8 (fun f_9 hW_9 hF_9 => ?_)
  have hB_9 := isWS_fr hB hF_9 hBA
  exact gx_vretW C hr hW_9 hF_9 dX3_copyFrom_101 (rfl).symm
theorem kdN_X5_copyFrom : yX5_copyFrom.cls ≠ "java/lang/invoke/MethodHandle" ∧ yX5_copyFrom.cls ≠ "java/lang/invoke/VarHandle" ∧ (parseMethodDescriptor yX5_copyFrom.desc).map (fun d => d.parameters.length) = some 1 := by decide +kernel
theorem kdV_X5_copyFrom : yX5_copyFrom.cls = RX5 ∧ yX5_copyFrom.cls ≠ "java/lang/invoke/MethodHandle" ∧ yX5_copyFrom.cls ≠ "java/lang/invoke/VarHandle" ∧ (parseMethodDescriptor yX5_copyFrom.desc).map (fun d => d.parameters.length) = some 1 := ⟨rfl, kdN_X5_copyFrom⟩
def wX5_copyFrom (w w2 : WS)  : WS := (wSc (wSc (wSc (wRow (wRow (wX3_copyFrom (wX0_copyFrom (wRow w 0 (va_cpy (w2.1 0) (w.1 0) 0 0 4)) w2) w2) 10 (va_cpy (w2.1 10) ((wX3_copyFrom (wX0_copyFrom (wRow w 0 (va_cpy (w2.1 0) (w.1 0) 0 0 4)) w2) w2).1 10) 0 0 4)) 11 (va_cpy (w2.1 11) ((wRow (wX3_copyFrom (wX0_copyFrom (wRow w 0 (va_cpy (w2.1 0) (w.1 0) 0 0 4)) w2) w2) 10 (va_cpy (w2.1 10) ((wX3_copyFrom (wX0_copyFrom (wRow w 0 (va_cpy (w2.1 0) (w.1 0) 0 0 4)) w2) w2).1 10) 0 0 4)).1 11) 0 0 10)) 3 (w2.2 3)) 4 (w2.2 4)) 5 (w2.2 5))
theorem in_X5_copyFrom_5 : ∀ w ∈ u_ws RX5 TX5 8, w ∈ wsX5_copyFrom := by decide +kernel
theorem fl_X5_copyFrom_14 : Cond.fieldLink RX5 14 (TX5 0).1 (TX5 0).2.1 (TX5 0).2.2.1 ∈ wsX5_copyFrom := by decide +kernel
theorem fl_X5_copyFrom_23 : Cond.fieldLink RX5 23 (TX5 1).1 (TX5 1).2.1 (TX5 1).2.2.1 ∈ wsX5_copyFrom := by decide +kernel
theorem fl_X5_copyFrom_30 : Cond.fieldLink RX5 30 (TX5 2).1 (TX5 2).2.1 (TX5 2).2.2.1 ∈ wsX5_copyFrom := by decide +kernel
theorem fl_X5_copyFrom_34 : Cond.fieldLink RX5 34 (TX5 3).1 (TX5 3).2.1 (TX5 3).2.2.1 ∈ wsX5_copyFrom := by decide +kernel
theorem fl_X5_copyFrom_37 : Cond.fieldLink RX5 37 (TX5 4).1 (TX5 4).2.1 (TX5 4).2.2.1 ∈ wsX5_copyFrom := by decide +kernel
theorem fl_X5_copyFrom_58 : Cond.fieldLink RX5 58 (TX5 5).1 (TX5 5).2.1 (TX5 5).2.2.1 ∈ wsX5_copyFrom := by decide +kernel
theorem fl_X5_copyFrom_40 : Cond.fieldLink RX5 40 (TX5 6).1 (TX5 6).2.1 (TX5 6).2.2.1 ∈ wsX5_copyFrom := by decide +kernel
theorem fl_X5_copyFrom_61 : Cond.fieldLink RX5 61 (TX5 7).1 (TX5 7).2.1 (TX5 7).2.2.1 ∈ wsX5_copyFrom := by decide +kernel
abbrev rmX5_copyFrom : Room := { frames := 3, cells := 0, slots := 0, locals := 82 }
set_option maxHeartbeats 4000000 in
set_option maxRecDepth 100000 in
theorem k_X5_copyFrom (l : Launch) {k : gK} {L : List Nat} {f : Nat → va_E} (hL : L.Nodup) {a b : Nat → Nat} {w w2 : WS} (hW : isWS k L f a w) (hB : isWS k L f b w2) (hBA : ∀ i j, i < 27 → j < 27 → b i ≠ a j)  : kM l k L f yX5_copyFrom wsX5_copyFrom rmX5_copyFrom [.ref (a 0), .ref (b 0)] (wP k L a f none (wX5_copyFrom w w2)) := by
  refine kM_of (cc := cX5_copyFrom) (maxL := 2) (ret := none) (by decide) rfl (Nat.le_of_ble_eq_true rfl) ?_
  intro p e s m args below meth c C hr
  have hD : gD (fun q => q ∈ L) L := ⟨hL, fun _ h => h⟩
  refine gx_lv [(0, _), (1, _)] [0, 1] rfl ?_
  refine gx_aload_n (q := 1) C dX5_copyFrom_0 rfl ?_
  refine gx_ifnonnull (tgt := 5) C dX5_copyFrom_1 (by decide) ?_
  refine gx_aload_n (q := 0) C dX5_copyFrom_5 rfl ?_
  refine gx_get C (i := 0) (isWS_in hW 0 (Nat.le_of_ble_eq_true rfl)) (isWS_0 hW) rfl in_X5_copyFrom_5 (by decide) fl_X5_copyFrom_14 rfl dX5_copyFrom_6 ?_
  refine gx_aload_n (q := 1) C dX5_copyFrom_9 rfl ?_
  refine gx_get C (i := 0) (isWS_in hB 0 (Nat.le_of_ble_eq_true rfl)) (isWS_0 hB) rfl in_X5_copyFrom_5 (by decide) fl_X5_copyFrom_14 rfl dX5_copyFrom_10 ?_
  refine gx_callWv C hD (gFr_rf (f := f)) (kw_X4_copyFrom l hL hW hB 0 (Nat.le_of_ble_eq_true rfl) 4 rfl) (isWS_in hW 3 (Nat.le_of_ble_eq_true rfl)) (isWS_row hW 0 (Nat.le_of_ble_eq_true rfl)) rfl (cwV 1 C.2.2.2.2.1 gX5_copyFrom_X4_copyFrom rfl rfl rfl kdV_X4_copyFrom ⟨Nat.le_of_ble_eq_true rfl, Nat.le_of_ble_eq_true rfl⟩) rfl rfl (Nat.le_of_ble_eq_true rfl) ⟨Nat.le_of_ble_eq_true rfl, Nat.le_of_ble_eq_true rfl⟩ dX5_copyFrom_13 (fun f_1 hW_1 hF_1 => ?_)
  have hB_1 := isWS_fr hB hF_1 hBA
  refine gx_aload_n (q := 0) C dX5_copyFrom_16 rfl ?_
  refine gx_get C (i := 1) (isWS_in hW_1 0 (Nat.le_of_ble_eq_true rfl)) (isWS_0 hW_1) rfl in_X5_copyFrom_5 (by decide) fl_X5_copyFrom_23 rfl dX5_copyFrom_17 ?_
  refine gx_aload_n (q := 1) C dX5_copyFrom_20 rfl ?_
  refine gx_get C (i := 1) (isWS_in hB_1 0 (Nat.le_of_ble_eq_true rfl)) (isWS_0 hB_1) rfl in_X5_copyFrom_5 (by decide) fl_X5_copyFrom_23 rfl dX5_copyFrom_21 ?_
  refine gx_callWv C hD hF_1 (k_X0_copyFrom l hL hW_1 hB_1 hBA) (isWS_in hW_1 1 (Nat.le_of_ble_eq_true rfl)) (isWS_1 hW_1) rfl (cwV 1 C.2.2.2.2.1 gX5_copyFrom_X0_copyFrom rfl rfl rfl kdV_X0_copyFrom ⟨Nat.le_of_ble_eq_true rfl, Nat.le_of_ble_eq_true rfl⟩) rfl rfl (Nat.le_of_ble_eq_true rfl) ⟨Nat.le_of_ble_eq_true rfl, Nat.le_of_ble_eq_true rfl⟩ dX5_copyFrom_24 (fun f_2 hW_2 hF_2 => ?_)
  have hB_2 := isWS_fr hB hF_2 hBA
  refine gx_aload_n (q := 0) C dX5_copyFrom_27 rfl ?_
  refine gx_get C (i := 2) (isWS_in hW_2 0 (Nat.le_of_ble_eq_true rfl)) (isWS_0 hW_2) rfl in_X5_copyFrom_5 (by decide) fl_X5_copyFrom_30 rfl dX5_copyFrom_28 ?_
  refine gx_aload_n (q := 1) C dX5_copyFrom_31 rfl ?_
  refine gx_get C (i := 2) (isWS_in hB_2 0 (Nat.le_of_ble_eq_true rfl)) (isWS_0 hB_2) rfl in_X5_copyFrom_5 (by decide) fl_X5_copyFrom_30 rfl dX5_copyFrom_32 ?_
  refine gx_callWv C hD hF_2 (k_X3_copyFrom l hL hW_2 hB_2 hBA) (isWS_in hW_2 2 (Nat.le_of_ble_eq_true rfl)) (isWS_2 hW_2) rfl (cwV 1 C.2.2.2.2.1 gX5_copyFrom_X3_copyFrom rfl rfl rfl kdV_X3_copyFrom ⟨Nat.le_of_ble_eq_true rfl, Nat.le_of_ble_eq_true rfl⟩) rfl rfl (Nat.le_of_ble_eq_true rfl) ⟨Nat.le_of_ble_eq_true rfl, Nat.le_of_ble_eq_true rfl⟩ dX5_copyFrom_35 (fun f_3 hW_3 hF_3 => ?_)
  have hB_3 := isWS_fr hB hF_3 hBA
  refine gx_aload_n (q := 0) C dX5_copyFrom_38 rfl ?_
  refine gx_get C (i := 3) (isWS_in hW_3 0 (Nat.le_of_ble_eq_true rfl)) (isWS_0 hW_3) rfl in_X5_copyFrom_5 (by decide) fl_X5_copyFrom_34 rfl dX5_copyFrom_39 ?_
  refine gx_aload_n (q := 1) C dX5_copyFrom_42 rfl ?_
  refine gx_get C (i := 3) (isWS_in hB_3 0 (Nat.le_of_ble_eq_true rfl)) (isWS_0 hB_3) rfl in_X5_copyFrom_5 (by decide) fl_X5_copyFrom_34 rfl dX5_copyFrom_43 ?_
  refine gx_callWv C hD hF_3 (kw_X4_copyFrom l hL hW_3 hB_3 10 (Nat.le_of_ble_eq_true rfl) 4 rfl) (isWS_in hW_3 23 (Nat.le_of_ble_eq_true rfl)) (isWS_row hW_3 10 (Nat.le_of_ble_eq_true rfl)) rfl (cwV 1 C.2.2.2.2.1 gX5_copyFrom_X4_copyFrom rfl rfl rfl kdV_X4_copyFrom ⟨Nat.le_of_ble_eq_true rfl, Nat.le_of_ble_eq_true rfl⟩) rfl rfl (Nat.le_of_ble_eq_true rfl) ⟨Nat.le_of_ble_eq_true rfl, Nat.le_of_ble_eq_true rfl⟩ dX5_copyFrom_46 (fun f_4 hW_4 hF_4 => ?_)
  have hB_4 := isWS_fr hB hF_4 hBA
  refine gx_aload_n (q := 0) C dX5_copyFrom_49 rfl ?_
  refine gx_get C (i := 4) (isWS_in hW_4 0 (Nat.le_of_ble_eq_true rfl)) (isWS_0 hW_4) rfl in_X5_copyFrom_5 (by decide) fl_X5_copyFrom_37 rfl dX5_copyFrom_50 ?_
  refine gx_aload_n (q := 1) C dX5_copyFrom_53 rfl ?_
  refine gx_get C (i := 4) (isWS_in hB_4 0 (Nat.le_of_ble_eq_true rfl)) (isWS_0 hB_4) rfl in_X5_copyFrom_5 (by decide) fl_X5_copyFrom_37 rfl dX5_copyFrom_54 ?_
  refine gx_callWv C hD hF_4 (kw_X4_copyFrom l hL hW_4 hB_4 11 (Nat.le_of_ble_eq_true rfl) 10 rfl) (isWS_in hW_4 25 (Nat.le_of_ble_eq_true rfl)) (isWS_row hW_4 11 (Nat.le_of_ble_eq_true rfl)) rfl (cwV 1 C.2.2.2.2.1 gX5_copyFrom_X4_copyFrom rfl rfl rfl kdV_X4_copyFrom ⟨Nat.le_of_ble_eq_true rfl, Nat.le_of_ble_eq_true rfl⟩) rfl rfl (Nat.le_of_ble_eq_true rfl) ⟨Nat.le_of_ble_eq_true rfl, Nat.le_of_ble_eq_true rfl⟩ dX5_copyFrom_57 (fun f_5 hW_5 hF_5 => ?_)
  have hB_5 := isWS_fr hB hF_5 hBA
  refine gx_aload_n (q := 0) C dX5_copyFrom_60 rfl ?_
  refine gx_aload_n (q := 1) C dX5_copyFrom_61 rfl ?_
  refine gx_get C (i := 5) (isWS_in hB_5 0 (Nat.le_of_ble_eq_true rfl)) (isWS_0 hB_5) rfl in_X5_copyFrom_5 (by decide) fl_X5_copyFrom_58 rfl dX5_copyFrom_62 ?_
  refine gx_put C hD (i := 5) (ty := .int) tyX5_ok nmX5 (isWS_in hW_5 0 (Nat.le_of_ble_eq_true rfl)) (isWS_0 hW_5) rfl in_X5_copyFrom_5 (by decide) fl_X5_copyFrom_58 rfl (by decide +kernel) rfl rfl (Nat.le_of_ble_eq_true rfl) rfl dX5_copyFrom_65 ?_
  refine gx_w3 hW_5 hF_5 (fun f_6 hW_6 hF_6 => ?_)
  have hB_6 := isWS_fr hB hF_6 hBA
  refine gx_aload_n (q := 0) C dX5_copyFrom_68 rfl ?_
  refine gx_aload_n (q := 1) C dX5_copyFrom_69 rfl ?_
  refine gx_get C (i := 6) (isWS_in hB_6 0 (Nat.le_of_ble_eq_true rfl)) (isWS_0 hB_6) rfl in_X5_copyFrom_5 (by decide) fl_X5_copyFrom_40 rfl dX5_copyFrom_70 ?_
  refine gx_put C hD (i := 6) (ty := .int) tyX5_ok nmX5 (isWS_in hW_6 0 (Nat.le_of_ble_eq_true rfl)) (isWS_0 hW_6) rfl in_X5_copyFrom_5 (by decide) fl_X5_copyFrom_40 rfl (by decide +kernel) rfl rfl (Nat.le_of_ble_eq_true rfl) rfl dX5_copyFrom_73 ?_
  refine gx_w4 hW_6 hF_6 (fun f_7 hW_7 hF_7 => ?_)
  have hB_7 := isWS_fr hB hF_7 hBA
  refine gx_aload_n (q := 0) C dX5_copyFrom_76 rfl ?_
  refine gx_aload_n (q := 1) C dX5_copyFrom_77 rfl ?_
  refine gx_get C (i := 7) (isWS_in hB_7 0 (Nat.le_of_ble_eq_true rfl)) (isWS_0 hB_7) rfl in_X5_copyFrom_5 (by decide) fl_X5_copyFrom_61 rfl dX5_copyFrom_78 ?_
  refine gx_put C hD (i := 7) (ty := .int) tyX5_ok nmX5 (isWS_in hW_7 0 (Nat.le_of_ble_eq_true rfl)) (isWS_0 hW_7) rfl in_X5_copyFrom_5 (by decide) fl_X5_copyFrom_61 rfl (by decide +kernel) rfl rfl (Nat.le_of_ble_eq_true rfl) rfl dX5_copyFrom_81 ?_
  refine gx_w5 hW_7 hF_7 (fun f_8 hW_8 hF_8 => ?_)
  have hB_8 := isWS_fr hB hF_8 hBA
  exact gx_vretW C hr hW_8 hF_8 dX5_copyFrom_84 (rfl).symm
