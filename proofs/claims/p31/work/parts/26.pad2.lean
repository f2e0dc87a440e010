theorem kdN_X2_length : yX2_length.cls ≠ "java/lang/invoke/MethodHandle" ∧ yX2_length.cls ≠ "java/lang/invoke/VarHandle" ∧ (parseMethodDescriptor yX2_length.desc).map (fun d => d.parameters.length) = some 0 := by decide +kernel
theorem kdV_X2_length : yX2_length.cls = RX2 ∧ yX2_length.cls ≠ "java/lang/invoke/MethodHandle" ∧ yX2_length.cls ≠ "java/lang/invoke/VarHandle" ∧ (parseMethodDescriptor yX2_length.desc).map (fun d => d.parameters.length) = some 0 := ⟨rfl, kdN_X2_length⟩
theorem in_X2_length_2 : ∀ w ∈ u_ws RX2 TX2 7, w ∈ wsX2_length := by decide +kernel
theorem fl_X2_length_15 : Cond.fieldLink RX2 15 (TX2 1).1 (TX2 1).2.1 (TX2 1).2.2.1 ∈ wsX2_length := by decide +kernel
abbrev rmX2_length : Room := { frames := 0, cells := 0, slots := 0, locals := 0 }
set_option maxHeartbeats 4000000 in
set_option maxRecDepth 100000 in
theorem k_X2_length (l : Launch) {k : gK} {L : List Nat} {f : Nat → va_E} {d : Nat → Nat} {q : DS} (hW : isDS k L f d q)  : kR l k L f yX2_length wsX2_length rmX2_length [.ref (d 0)] (.int (q.2 0)) := by
  refine kR_of (cc := cX2_length) (maxL := 1) (ret := (some .int)) (by decide) rfl (Nat.le_of_ble_eq_true rfl) ?_
  intro p e s m args below meth c C hr
  refine gx_lv [(0, _)] [0] rfl ?_
  refine gx_aload_n (q := 0) C dX2_length_0 rfl ?_
  refine gx_get C (i := 1) (isDS_in hW 0 (Nat.le_of_ble_eq_true rfl)) (isDS_0 hW) rfl in_X2_length_2 (by decide) fl_X2_length_15 rfl dX2_length_1 ?_
  exact gx_iretR C rfl hr dX2_length_4 (congrArg Value.int (by rfl))
