theorem kdN_X5_factOfPot : yX5_factOfPot.cls ≠ "java/lang/invoke/MethodHandle" ∧ yX5_factOfPot.cls ≠ "java/lang/invoke/VarHandle" ∧ (parseMethodDescriptor yX5_factOfPot.desc).map (fun d => d.parameters.length) = some 2 := by decide +kernel
theorem kdV_X5_factOfPot : yX5_factOfPot.cls = RX5 ∧ yX5_factOfPot.cls ≠ "java/lang/invoke/MethodHandle" ∧ yX5_factOfPot.cls ≠ "java/lang/invoke/VarHandle" ∧ (parseMethodDescriptor yX5_factOfPot.desc).map (fun d => d.parameters.length) = some 2 := ⟨rfl, kdN_X5_factOfPot⟩
def vX5_factOfPot (w : WS) (q : Int32) (what : Int32) : Int32 := (if (cHas w q) = true then (if (cKind w q 2) = true then (if what = 0 then (rAt 20 (w.1 2) q) else (if what = 1 then (rAt 20 (w.1 3) q) else (if what = 2 then (rAt 20 (w.1 5) q) else (if what = 3 then (if (cRack w q) = true then 0 else (if (cKiln w q) = true then 1 else 2)) else (if what = 4 then (if (cRack w q) = true then (rAt 20 (w.1 6) q) else (-6)) else (if what = 5 then (rAt 20 (w.1 7) q) else (if what = 6 then (if (rAt 20 (w.1 9) q) = 0 then (-6) else (rAt 20 (w.1 4) q)) else (if what = 7 then (rAt 20 (w.1 8) q) else (if what = 8 then (rAt 20 (w.1 9) q) else (-2)))))))))) else (if (cKind w q 3) = true then (if what = 0 then (rAt 20 (w.1 2) q) else (if what = 1 then (rAt 20 (w.1 3) q) else (if what = 2 then (rAt 20 (w.1 5) q) else (if what = 3 then (if (cRack w q) = true then 0 else (if (cKiln w q) = true then 1 else 2)) else (if what = 4 then (if (cRack w q) = true then (rAt 20 (w.1 6) q) else (-6)) else (if what = 5 then (rAt 20 (w.1 7) q) else (if what = 6 then (if (rAt 20 (w.1 9) q) = 0 then (-6) else (rAt 20 (w.1 4) q)) else (if what = 7 then (rAt 20 (w.1 8) q) else (if what = 8 then (rAt 20 (w.1 9) q) else (-2)))))))))) else (if what = 0 then (rAt 20 (w.1 2) q) else (if what = 1 then (rAt 20 (w.1 3) q) else (if what = 2 then (rAt 20 (w.1 5) q) else (if what = 3 then (if (cRack w q) = true then 0 else (if (cKiln w q) = true then 1 else 2)) else (if what = 4 then (if (cRack w q) = true then (rAt 20 (w.1 6) q) else (-6)) else (if what = 5 then (rAt 20 (w.1 7) q) else (if what = 6 then (if (rAt 20 (w.1 9) q) = 0 then (-6) else (rAt 20 (w.1 4) q)) else (if what = 7 then (-6) else (if what = 8 then (rAt 20 (w.1 9) q) else (-2)))))))))))) else (-1))
theorem in_X5_factOfPot_5 : ∀ w ∈ u_ws RX5 TX5 8, w ∈ wsX5_factOfPot := by decide +kernel
theorem fl_X5_factOfPot_30 : Cond.fieldLink RX5 30 (TX5 2).1 (TX5 2).2.1 (TX5 2).2.2.1 ∈ wsX5_factOfPot := by decide +kernel
theorem in_X5_factOfPot_3 : ∀ w ∈ u_ws RX3 TX3 9, w ∈ wsX5_factOfPot := by decide +kernel
abbrev rmX5_factOfPot : Room := { frames := 2, cells := 0, slots := 0, locals := 43 }
set_option maxHeartbeats 4000000 in
set_option maxRecDepth 100000 in
theorem k_X5_factOfPot (l : Launch) {k : gK} {L : List Nat} {f : Nat → va_E} {a : Nat → Nat} {w : WS} (hW : isWS k L f a w) (q : Int32) (what : Int32) : kR l k L f yX5_factOfPot wsX5_factOfPot rmX5_factOfPot [.ref (a 0), .int q, .int what] (.int (vX5_factOfPot w q what)) := by
  refine kR_of (cc := cX5_factOfPot) (maxL := 6) (ret := (some .int)) (by decide) rfl (Nat.le_of_ble_eq_true rfl) ?_
  intro p e s m args below meth c C hr
  refine gx_lv [(0, _), (1, _), (2, _)] [0, 1, 2] rfl ?_
  refine gx_aload_n (q := 0) C dX5_factOfPot_0 rfl ?_
  refine gx_get C (i := 2) (isWS_in hW 0 (Nat.le_of_ble_eq_true rfl)) (isWS_0 hW) rfl in_X5_factOfPot_5 (by decide) fl_X5_factOfPot_30 rfl dX5_factOfPot_1 ?_
  refine gx_iload_n (q := 1) C dX5_factOfPot_4 rfl ?_
  refine gx_callR C (k_X3_has l hW _) (isWS_in hW 2 (Nat.le_of_ble_eq_true rfl)) (isWS_2 hW) rfl (cwV 1 C.2.2.2.2.1 gX5_factOfPot_X3_has rfl rfl rfl kdV_X3_has ⟨Nat.le_of_ble_eq_true rfl, Nat.le_of_ble_eq_true rfl⟩) rfl rfl (Nat.le_of_ble_eq_true rfl) ⟨Nat.le_of_ble_eq_true rfl, Nat.le_of_ble_eq_true rfl⟩ dX5_factOfPot_5 ?_
  refine gx_if_ne (tgt := 13) C dX5_factOfPot_8 (by decide) (fun c_8 => ?_) (fun c_8 => ?_)
  · skip
    have h_8 := bI1.mp c_8
    refine gx_aload_n (q := 0) C dX5_factOfPot_13 rfl ?_
    refine gx_get C (i := 2) (isWS_in hW 0 (Nat.le_of_ble_eq_true rfl)) (isWS_0 hW) rfl in_X5_factOfPot_5 (by decide) fl_X5_factOfPot_30 rfl dX5_factOfPot_14 ?_
    refine gx_iload_n (q := 1) C dX5_factOfPot_17 rfl ?_
    refine gx_callR C (k_X3_isOnRack l hW _) (isWS_in hW 2 (Nat.le_of_ble_eq_true rfl)) (isWS_2 hW) rfl (cwV 1 C.2.2.2.2.1 gX5_factOfPot_X3_isOnRack rfl rfl rfl kdV_X3_isOnRack ⟨Nat.le_of_ble_eq_true rfl, Nat.le_of_ble_eq_true rfl⟩) rfl rfl (Nat.le_of_ble_eq_true rfl) ⟨Nat.le_of_ble_eq_true rfl, Nat.le_of_ble_eq_true rfl⟩ dX5_factOfPot_18 ?_
    refine gx_istore_n C (i := 3) [(3, _), (0, _), (1, _), (2, _)] dX5_factOfPot_21 rfl (by decide) rfl ?_
    refine gx_aload_n (q := 1) C dX5_factOfPot_22 rfl ?_
    refine gx_get C (i := 2) (isWS_in hW 0 (Nat.le_of_ble_eq_true rfl)) (isWS_0 hW) rfl in_X5_factOfPot_5 (by decide) fl_X5_factOfPot_30 rfl dX5_factOfPot_23 ?_
    refine gx_iload_n (q := 2) C dX5_factOfPot_26 rfl ?_
    refine gx_iconst (v := 2) C dX5_factOfPot_27 (by decide) ?_
    refine gx_callR C (k_X3_isKind l hW _ _) (isWS_in hW 2 (Nat.le_of_ble_eq_true rfl)) (isWS_2 hW) rfl (cwV 2 C.2.2.2.2.1 gX5_factOfPot_X3_isKind rfl rfl rfl kdV_X3_isKind ⟨Nat.le_of_ble_eq_true rfl, Nat.le_of_ble_eq_true rfl⟩) rfl rfl (Nat.le_of_ble_eq_true rfl) ⟨Nat.le_of_ble_eq_true rfl, Nat.le_of_ble_eq_true rfl⟩ dX5_factOfPot_28 ?_
    refine gx_if_ne (tgt := 46) C dX5_factOfPot_31 (by decide) (fun c_31 => ?_) (fun c_31 => ?_)
    · skip
      have h_31 := bI1.mp c_31
      refine gx_iconst (v := 1) C dX5_factOfPot_46 (by decide) ?_
      refine gx_goto (tgt := 51) C dX5_factOfPot_47 (by decide) ?_
      refine gx_istore C [(4, _), (3, _), (0, _), (1, _), (2, _)] dX5_factOfPot_51 (by decide) rfl ?_
      refine gx_aload_n (q := 2) C dX5_factOfPot_53 rfl ?_
      refine gx_get C (i := 2) (isWS_in hW 0 (Nat.le_of_ble_eq_true rfl)) (isWS_0 hW) rfl in_X5_factOfPot_5 (by decide) fl_X5_factOfPot_30 rfl dX5_factOfPot_54 ?_
      refine gx_getN C (i := 7) (isWS_in hW 2 (Nat.le_of_ble_eq_true rfl)) (isWS_2 hW) rfl in_X5_factOfPot_3 (by decide) (by decide +kernel) rfl dX5_factOfPot_57 ?_
      refine gx_iload_n (q := 3) C dX5_factOfPot_60 rfl ?_
      refine gx_callR C (kw_X4_at l hW 9 (Nat.le_of_ble_eq_true rfl) 20 rfl _) (isWS_in hW 21 (Nat.le_of_ble_eq_true rfl)) (isWS_row hW 9 (Nat.le_of_ble_eq_true rfl)) rfl (cwV 1 C.2.2.2.2.1 gX5_factOfPot_X4_at rfl rfl rfl kdV_X4_at ⟨Nat.le_of_ble_eq_true rfl, Nat.le_of_ble_eq_true rfl⟩) rfl rfl (Nat.le_of_ble_eq_true rfl) ⟨Nat.le_of_ble_eq_true rfl, Nat.le_of_ble_eq_true rfl⟩ dX5_factOfPot_61 ?_
      refine gx_istore C [(5, _), (4, _), (3, _), (0, _), (1, _), (2, _)] dX5_factOfPot_64 (by decide) rfl ?_
      refine gx_iload_n (q := 5) C dX5_factOfPot_66 rfl ?_
      refine gsw_split 0 8 what ?_ ?_
      · intro sw_67
        refine gx_tableOut (tgt := 257) C dX5_factOfPot_67 sw_67 (by decide) ?_
        have n67_0 : ¬ what = 0 := gsw_ne sw_67 (by decide)
        have n67_1 : ¬ what = 1 := gsw_ne sw_67 (by decide)
        have n67_2 : ¬ what = 2 := gsw_ne sw_67 (by decide)
        have n67_3 : ¬ what = 3 := gsw_ne sw_67 (by decide)
        have n67_4 : ¬ what = 4 := gsw_ne sw_67 (by decide)
        have n67_5 : ¬ what = 5 := gsw_ne sw_67 (by decide)
        have n67_6 : ¬ what = 6 := gsw_ne sw_67 (by decide)
        have n67_7 : ¬ what = 7 := gsw_ne sw_67 (by decide)
        have n67_8 : ¬ what = 8 := gsw_ne sw_67 (by decide)
        refine gx_bipush (v := (-2)) C dX5_factOfPot_257 (by decide) ?_
        exact gx_iretR C rfl hr dX5_factOfPot_259 (congrArg Value.int ((if_pos h_8).trans ((if_pos h_31).trans ((if_neg n67_0).trans ((if_neg n67_1).trans ((if_neg n67_2).trans ((if_neg n67_3).trans ((if_neg n67_4).trans ((if_neg n67_5).trans ((if_neg n67_6).trans ((if_neg n67_7).trans ((if_neg n67_8).trans (rfl)))))))))))).symm)
      · intro j hj1 hj2 sw_67
        obtain rfl | rfl | rfl | rfl | rfl | rfl | rfl | rfl | rfl : j = 0 ∨ j = 1 ∨ j = 2 ∨ j = 3 ∨ j = 4 ∨ j = 5 ∨ j = 6 ∨ j = 7 ∨ j = 8 := by omega
        · skip
          refine gx_tableIn (off := 49) (tgt := 116) C dX5_factOfPot_67 (by rw [sw_67]; decide) (by rw [sw_67]; decide) (by rw [sw_67]; rfl) (by decide) ?_
          have e67_0 : what = 0 := gsw_eq sw_67 (by decide)
          refine gx_aload_n (q := 3) C dX5_factOfPot_116 rfl ?_
          refine gx_get C (i := 2) (isWS_in hW 0 (Nat.le_of_ble_eq_true rfl)) (isWS_0 hW) rfl in_X5_factOfPot_5 (by decide) fl_X5_factOfPot_30 rfl dX5_factOfPot_117 ?_
          refine gx_getN C (i := 0) (isWS_in hW 2 (Nat.le_of_ble_eq_true rfl)) (isWS_2 hW) rfl in_X5_factOfPot_3 (by decide) (by decide +kernel) rfl dX5_factOfPot_120 ?_
          refine gx_iload_n (q := 4) C dX5_factOfPot_123 rfl ?_
          refine gx_callR C (kw_X4_at l hW 2 (Nat.le_of_ble_eq_true rfl) 20 rfl _) (isWS_in hW 7 (Nat.le_of_ble_eq_true rfl)) (isWS_row hW 2 (Nat.le_of_ble_eq_true rfl)) rfl (cwV 1 C.2.2.2.2.1 gX5_factOfPot_X4_at rfl rfl rfl kdV_X4_at ⟨Nat.le_of_ble_eq_true rfl, Nat.le_of_ble_eq_true rfl⟩) rfl rfl (Nat.le_of_ble_eq_true rfl) ⟨Nat.le_of_ble_eq_true rfl, Nat.le_of_ble_eq_true rfl⟩ dX5_factOfPot_124 ?_
          exact gx_iretR C rfl hr dX5_factOfPot_127 (congrArg Value.int ((if_pos h_8).trans ((if_pos h_31).trans ((if_pos e67_0).trans (rfl)))).symm)
        · skip
          refine gx_tableIn (off := 61) (tgt := 128) C dX5_factOfPot_67 (by rw [sw_67]; decide) (by rw [sw_67]; decide) (by rw [sw_67]; rfl) (by decide) ?_
          have e67_1 : what = 1 := gsw_eq sw_67 (by decide)
          have n67_0 : ¬ what = 0 := gsw_n2 e67_1 (by decide)
          refine gx_aload_n (q := 3) C dX5_factOfPot_128 rfl ?_
          refine gx_get C (i := 2) (isWS_in hW 0 (Nat.le_of_ble_eq_true rfl)) (isWS_0 hW) rfl in_X5_factOfPot_5 (by decide) fl_X5_factOfPot_30 rfl dX5_factOfPot_129 ?_
          refine gx_getN C (i := 1) (isWS_in hW 2 (Nat.le_of_ble_eq_true rfl)) (isWS_2 hW) rfl in_X5_factOfPot_3 (by decide) (by decide +kernel) rfl dX5_factOfPot_132 ?_
          refine gx_iload_n (q := 4) C dX5_factOfPot_135 rfl ?_
          refine gx_callR C (kw_X4_at l hW 3 (Nat.le_of_ble_eq_true rfl) 20 rfl _) (isWS_in hW 9 (Nat.le_of_ble_eq_true rfl)) (isWS_row hW 3 (Nat.le_of_ble_eq_true rfl)) rfl (cwV 1 C.2.2.2.2.1 gX5_factOfPot_X4_at rfl rfl rfl kdV_X4_at ⟨Nat.le_of_ble_eq_true rfl, Nat.le_of_ble_eq_true rfl⟩) rfl rfl (Nat.le_of_ble_eq_true rfl) ⟨Nat.le_of_ble_eq_true rfl, Nat.le_of_ble_eq_true rfl⟩ dX5_factOfPot_136 ?_
          exact gx_iretR C rfl hr dX5_factOfPot_139 (congrArg Value.int ((if_pos h_8).trans ((if_pos h_31).trans ((if_neg n67_0).trans ((if_pos e67_1).trans (rfl))))).symm)
        · skip
          refine gx_tableIn (off := 73) (tgt := 140) C dX5_factOfPot_67 (by rw [sw_67]; decide) (by rw [sw_67]; decide) (by rw [sw_67]; rfl) (by decide) ?_
          have e67_2 : what = 2 := gsw_eq sw_67 (by decide)
          have n67_0 : ¬ what = 0 := gsw_n2 e67_2 (by decide)
          have n67_1 : ¬ what = 1 := gsw_n2 e67_2 (by decide)
          refine gx_aload_n (q := 3) C dX5_factOfPot_140 rfl ?_
          refine gx_get C (i := 2) (isWS_in hW 0 (Nat.le_of_ble_eq_true rfl)) (isWS_0 hW) rfl in_X5_factOfPot_5 (by decide) fl_X5_factOfPot_30 rfl dX5_factOfPot_141 ?_
          refine gx_getN C (i := 3) (isWS_in hW 2 (Nat.le_of_ble_eq_true rfl)) (isWS_2 hW) rfl in_X5_factOfPot_3 (by decide) (by decide +kernel) rfl dX5_factOfPot_144 ?_
          refine gx_iload_n (q := 4) C dX5_factOfPot_147 rfl ?_
          refine gx_callR C (kw_X4_at l hW 5 (Nat.le_of_ble_eq_true rfl) 20 rfl _) (isWS_in hW 13 (Nat.le_of_ble_eq_true rfl)) (isWS_row hW 5 (Nat.le_of_ble_eq_true rfl)) rfl (cwV 1 C.2.2.2.2.1 gX5_factOfPot_X4_at rfl rfl rfl kdV_X4_at ⟨Nat.le_of_ble_eq_true rfl, Nat.le_of_ble_eq_true rfl⟩) rfl rfl (Nat.le_of_ble_eq_true rfl) ⟨Nat.le_of_ble_eq_true rfl, Nat.le_of_ble_eq_true rfl⟩ dX5_factOfPot_148 ?_
          exact gx_iretR C rfl hr dX5_factOfPot_151 (congrArg Value.int ((if_pos h_8).trans ((if_pos h_31).trans ((if_neg n67_0).trans ((if_neg n67_1).trans ((if_pos e67_2).trans (rfl)))))).symm)
        · skip
          refine gx_tableIn (off := 85) (tgt := 152) C dX5_factOfPot_67 (by rw [sw_67]; decide) (by rw [sw_67]; decide) (by rw [sw_67]; rfl) (by decide) ?_
          have e67_3 : what = 3 := gsw_eq sw_67 (by decide)
          have n67_0 : ¬ what = 0 := gsw_n2 e67_3 (by decide)
          have n67_1 : ¬ what = 1 := gsw_n2 e67_3 (by decide)
          have n67_2 : ¬ what = 2 := gsw_n2 e67_3 (by decide)
          refine gx_iload_n (q := 2) C dX5_factOfPot_152 rfl ?_
          refine gx_if_eq (tgt := 160) C dX5_factOfPot_153 (by decide) (fun c_153 => ?_) (fun c_153 => ?_)
          · skip
            have h_153 := bI0.mp c_153
            refine gx_aload_n (q := 3) C dX5_factOfPot_160 rfl ?_
            refine gx_get C (i := 2) (isWS_in hW 0 (Nat.le_of_ble_eq_true rfl)) (isWS_0 hW) rfl in_X5_factOfPot_5 (by decide) fl_X5_factOfPot_30 rfl dX5_factOfPot_161 ?_
            refine gx_iload_n (q := 4) C dX5_factOfPot_164 rfl ?_
            refine gx_callR C (k_X3_isInKiln l hW _) (isWS_in hW 2 (Nat.le_of_ble_eq_true rfl)) (isWS_2 hW) rfl (cwV 1 C.2.2.2.2.1 gX5_factOfPot_X3_isInKiln rfl rfl rfl kdV_X3_isInKiln ⟨Nat.le_of_ble_eq_true rfl, Nat.le_of_ble_eq_true rfl⟩) rfl rfl (Nat.le_of_ble_eq_true rfl) ⟨Nat.le_of_ble_eq_true rfl, Nat.le_of_ble_eq_true rfl⟩ dX5_factOfPot_165 ?_
            refine gx_if_eq (tgt := 175) C dX5_factOfPot_168 (by decide) (fun c_168 => ?_) (fun c_168 => ?_)
            · skip
              have h_168 := bI0.mp c_168
              refine gx_iconst (v := 2) C dX5_factOfPot_175 (by decide) ?_
              exact gx_iretR C rfl hr dX5_factOfPot_176 (congrArg Value.int ((if_pos h_8).trans ((if_pos h_31).trans ((if_neg n67_0).trans ((if_neg n67_1).trans ((if_neg n67_2).trans ((if_pos e67_3).trans ((if_neg (bF h_153)).trans ((if_neg (bF h_168)).trans (rfl))))))))).symm)
            · skip
              have h_168 := bI1.mp c_168
              refine gx_iconst (v := 1) C dX5_factOfPot_171 (by decide) ?_
              refine gx_goto (tgt := 176) C dX5_factOfPot_172 (by decide) ?_
              exact gx_iretR C rfl hr dX5_factOfPot_176 (congrArg Value.int ((if_pos h_8).trans ((if_pos h_31).trans ((if_neg n67_0).trans ((if_neg n67_1).trans ((if_neg n67_2).trans ((if_pos e67_3).trans ((if_neg (bF h_153)).trans ((if_pos h_168).trans (rfl))))))))).symm)
          · skip
            have h_153 := bI1.mp c_153
            refine gx_iconst (v := 0) C dX5_factOfPot_156 (by decide) ?_
            refine gx_goto (tgt := 176) C dX5_factOfPot_157 (by decide) ?_
            exact gx_iretR C rfl hr dX5_factOfPot_176 (congrArg Value.int ((if_pos h_8).trans ((if_pos h_31).trans ((if_neg n67_0).trans ((if_neg n67_1).trans ((if_neg n67_2).trans ((if_pos e67_3).trans ((if_pos h_153).trans (rfl)))))))).symm)
        · skip
          refine gx_tableIn (off := 110) (tgt := 177) C dX5_factOfPot_67 (by rw [sw_67]; decide) (by rw [sw_67]; decide) (by rw [sw_67]; rfl) (by decide) ?_
          have e67_4 : what = 4 := gsw_eq sw_67 (by decide)
          have n67_0 : ¬ what = 0 := gsw_n2 e67_4 (by decide)
          have n67_1 : ¬ what = 1 := gsw_n2 e67_4 (by decide)
          have n67_2 : ¬ what = 2 := gsw_n2 e67_4 (by decide)
          have n67_3 : ¬ what = 3 := gsw_n2 e67_4 (by decide)
          refine gx_iload_n (q := 2) C dX5_factOfPot_177 rfl ?_
          refine gx_if_eq (tgt := 195) C dX5_factOfPot_178 (by decide) (fun c_178 => ?_) (fun c_178 => ?_)
          · skip
            have h_178 := bI0.mp c_178
            refine gx_bipush (v := (-6)) C dX5_factOfPot_195 (by decide) ?_
            exact gx_iretR C rfl hr dX5_factOfPot_197 (congrArg Value.int ((if_pos h_8).trans ((if_pos h_31).trans ((if_neg n67_0).trans ((if_neg n67_1).trans ((if_neg n67_2).trans ((if_neg n67_3).trans ((if_pos e67_4).trans ((if_neg (bF h_178)).trans (rfl))))))))).symm)
          · skip
            have h_178 := bI1.mp c_178
            refine gx_aload_n (q := 3) C dX5_factOfPot_181 rfl ?_
            refine gx_get C (i := 2) (isWS_in hW 0 (Nat.le_of_ble_eq_true rfl)) (isWS_0 hW) rfl in_X5_factOfPot_5 (by decide) fl_X5_factOfPot_30 rfl dX5_factOfPot_182 ?_
            refine gx_getN C (i := 4) (isWS_in hW 2 (Nat.le_of_ble_eq_true rfl)) (isWS_2 hW) rfl in_X5_factOfPot_3 (by decide) (by decide +kernel) rfl dX5_factOfPot_185 ?_
            refine gx_iload_n (q := 4) C dX5_factOfPot_188 rfl ?_
            refine gx_callR C (kw_X4_at l hW 6 (Nat.le_of_ble_eq_true rfl) 20 rfl _) (isWS_in hW 15 (Nat.le_of_ble_eq_true rfl)) (isWS_row hW 6 (Nat.le_of_ble_eq_true rfl)) rfl (cwV 1 C.2.2.2.2.1 gX5_factOfPot_X4_at rfl rfl rfl kdV_X4_at ⟨Nat.le_of_ble_eq_true rfl, Nat.le_of_ble_eq_true rfl⟩) rfl rfl (Nat.le_of_ble_eq_true rfl) ⟨Nat.le_of_ble_eq_true rfl, Nat.le_of_ble_eq_true rfl⟩ dX5_factOfPot_189 ?_
            refine gx_goto (tgt := 197) C dX5_factOfPot_192 (by decide) ?_
            exact gx_iretR C rfl hr dX5_factOfPot_197 (congrArg Value.int ((if_pos h_8).trans ((if_pos h_31).trans ((if_neg n67_0).trans ((if_neg n67_1).trans ((if_neg n67_2).trans ((if_neg n67_3).trans ((if_pos e67_4).trans ((if_pos h_178).trans (rfl))))))))).symm)
        · skip
          refine gx_tableIn (off := 131) (tgt := 198) C dX5_factOfPot_67 (by rw [sw_67]; decide) (by rw [sw_67]; decide) (by rw [sw_67]; rfl) (by decide) ?_
          have e67_5 : what = 5 := gsw_eq sw_67 (by decide)
          have n67_0 : ¬ what = 0 := gsw_n2 e67_5 (by decide)
          have n67_1 : ¬ what = 1 := gsw_n2 e67_5 (by decide)
          have n67_2 : ¬ what = 2 := gsw_n2 e67_5 (by decide)
          have n67_3 : ¬ what = 3 := gsw_n2 e67_5 (by decide)
          have n67_4 : ¬ what = 4 := gsw_n2 e67_5 (by decide)
          refine gx_aload_n (q := 3) C dX5_factOfPot_198 rfl ?_
          refine gx_get C (i := 2) (isWS_in hW 0 (Nat.le_of_ble_eq_true rfl)) (isWS_0 hW) rfl in_X5_factOfPot_5 (by decide) fl_X5_factOfPot_30 rfl dX5_factOfPot_199 ?_
          refine gx_getN C (i := 5) (isWS_in hW 2 (Nat.le_of_ble_eq_true rfl)) (isWS_2 hW) rfl in_X5_factOfPot_3 (by decide) (by decide +kernel) rfl dX5_factOfPot_202 ?_
          refine gx_iload_n (q := 4) C dX5_factOfPot_205 rfl ?_
          refine gx_callR C (kw_X4_at l hW 7 (Nat.le_of_ble_eq_true rfl) 20 rfl _) (isWS_in hW 17 (Nat.le_of_ble_eq_true rfl)) (isWS_row hW 7 (Nat.le_of_ble_eq_true rfl)) rfl (cwV 1 C.2.2.2.2.1 gX5_factOfPot_X4_at rfl rfl rfl kdV_X4_at ⟨Nat.le_of_ble_eq_true rfl, Nat.le_of_ble_eq_true rfl⟩) rfl rfl (Nat.le_of_ble_eq_true rfl) ⟨Nat.le_of_ble_eq_true rfl, Nat.le_of_ble_eq_true rfl⟩ dX5_factOfPot_206 ?_
          exact gx_iretR C rfl hr dX5_factOfPot_209 (congrArg Value.int ((if_pos h_8).trans ((if_pos h_31).trans ((if_neg n67_0).trans ((if_neg n67_1).trans ((if_neg n67_2).trans ((if_neg n67_3).trans ((if_neg n67_4).trans ((if_pos e67_5).trans (rfl))))))))).symm)
        · skip
          refine gx_tableIn (off := 143) (tgt := 210) C dX5_factOfPot_67 (by rw [sw_67]; decide) (by rw [sw_67]; decide) (by rw [sw_67]; rfl) (by decide) ?_
          have e67_6 : what = 6 := gsw_eq sw_67 (by decide)
          have n67_0 : ¬ what = 0 := gsw_n2 e67_6 (by decide)
          have n67_1 : ¬ what = 1 := gsw_n2 e67_6 (by decide)
          have n67_2 : ¬ what = 2 := gsw_n2 e67_6 (by decide)
          have n67_3 : ¬ what = 3 := gsw_n2 e67_6 (by decide)
          have n67_4 : ¬ what = 4 := gsw_n2 e67_6 (by decide)
          have n67_5 : ¬ what = 5 := gsw_n2 e67_6 (by decide)
          refine gx_iload (q := 0) C dX5_factOfPot_210 rfl ?_
          refine gx_if_ne (tgt := 220) C dX5_factOfPot_212 (by decide) (fun c_212 => ?_) (fun c_212 => ?_)
          · skip
            refine gx_aload_n (q := 3) C dX5_factOfPot_220 rfl ?_
            refine gx_get C (i := 2) (isWS_in hW 0 (Nat.le_of_ble_eq_true rfl)) (isWS_0 hW) rfl in_X5_factOfPot_5 (by decide) fl_X5_factOfPot_30 rfl dX5_factOfPot_221 ?_
            refine gx_getN C (i := 2) (isWS_in hW 2 (Nat.le_of_ble_eq_true rfl)) (isWS_2 hW) rfl in_X5_factOfPot_3 (by decide) (by decide +kernel) rfl dX5_factOfPot_224 ?_
            refine gx_iload_n (q := 4) C dX5_factOfPot_227 rfl ?_
            refine gx_callR C (kw_X4_at l hW 4 (Nat.le_of_ble_eq_true rfl) 20 rfl _) (isWS_in hW 11 (Nat.le_of_ble_eq_true rfl)) (isWS_row hW 4 (Nat.le_of_ble_eq_true rfl)) rfl (cwV 1 C.2.2.2.2.1 gX5_factOfPot_X4_at rfl rfl rfl kdV_X4_at ⟨Nat.le_of_ble_eq_true rfl, Nat.le_of_ble_eq_true rfl⟩) rfl rfl (Nat.le_of_ble_eq_true rfl) ⟨Nat.le_of_ble_eq_true rfl, Nat.le_of_ble_eq_true rfl⟩ dX5_factOfPot_228 ?_
            exact gx_iretR C rfl hr dX5_factOfPot_231 (congrArg Value.int ((if_pos h_8).trans ((if_pos h_31).trans ((if_neg n67_0).trans ((if_neg n67_1).trans ((if_neg n67_2).trans ((if_neg n67_3).trans ((if_neg n67_4).trans ((if_neg n67_5).trans ((if_pos e67_6).trans ((if_neg c_212).trans (rfl))))))))))).symm)
          · skip
            refine gx_bipush (v := (-6)) C dX5_factOfPot_215 (by decide) ?_
            refine gx_goto (tgt := 231) C dX5_factOfPot_217 (by decide) ?_
            exact gx_iretR C rfl hr dX5_factOfPot_231 (congrArg Value.int ((if_pos h_8).trans ((if_pos h_31).trans ((if_neg n67_0).trans ((if_neg n67_1).trans ((if_neg n67_2).trans ((if_neg n67_3).trans ((if_neg n67_4).trans ((if_neg n67_5).trans ((if_pos e67_6).trans ((if_pos c_212).trans (rfl))))))))))).symm)
        · skip
          refine gx_tableIn (off := 165) (tgt := 232) C dX5_factOfPot_67 (by rw [sw_67]; decide) (by rw [sw_67]; decide) (by rw [sw_67]; rfl) (by decide) ?_
          have e67_7 : what = 7 := gsw_eq sw_67 (by decide)
          have n67_0 : ¬ what = 0 := gsw_n2 e67_7 (by decide)
          have n67_1 : ¬ what = 1 := gsw_n2 e67_7 (by decide)
          have n67_2 : ¬ what = 2 := gsw_n2 e67_7 (by decide)
          have n67_3 : ¬ what = 3 := gsw_n2 e67_7 (by decide)
          have n67_4 : ¬ what = 4 := gsw_n2 e67_7 (by decide)
          have n67_5 : ¬ what = 5 := gsw_n2 e67_7 (by decide)
          have n67_6 : ¬ what = 6 := gsw_n2 e67_7 (by decide)
          refine gx_iload (q := 1) C dX5_factOfPot_232 rfl ?_
          refine gx_if_eq (tgt := 251) C dX5_factOfPot_234 (by decide) (fun c_234 => ?_) (fun c_234 => ?_)
          exact absurd c_234 (by decide)
          refine gx_aload_n (q := 3) C dX5_factOfPot_237 rfl ?_
          refine gx_get C (i := 2) (isWS_in hW 0 (Nat.le_of_ble_eq_true rfl)) (isWS_0 hW) rfl in_X5_factOfPot_5 (by decide) fl_X5_factOfPot_30 rfl dX5_factOfPot_238 ?_
          refine gx_getN C (i := 6) (isWS_in hW 2 (Nat.le_of_ble_eq_true rfl)) (isWS_2 hW) rfl in_X5_factOfPot_3 (by decide) (by decide +kernel) rfl dX5_factOfPot_241 ?_
          refine gx_iload_n (q := 4) C dX5_factOfPot_244 rfl ?_
          refine gx_callR C (kw_X4_at l hW 8 (Nat.le_of_ble_eq_true rfl) 20 rfl _) (isWS_in hW 19 (Nat.le_of_ble_eq_true rfl)) (isWS_row hW 8 (Nat.le_of_ble_eq_true rfl)) rfl (cwV 1 C.2.2.2.2.1 gX5_factOfPot_X4_at rfl rfl rfl kdV_X4_at ⟨Nat.le_of_ble_eq_true rfl, Nat.le_of_ble_eq_true rfl⟩) rfl rfl (Nat.le_of_ble_eq_true rfl) ⟨Nat.le_of_ble_eq_true rfl, Nat.le_of_ble_eq_true rfl⟩ dX5_factOfPot_245 ?_
          refine gx_goto (tgt := 253) C dX5_factOfPot_248 (by decide) ?_
          exact gx_iretR C rfl hr dX5_factOfPot_253 (congrArg Value.int ((if_pos h_8).trans ((if_pos h_31).trans ((if_neg n67_0).trans ((if_neg n67_1).trans ((if_neg n67_2).trans ((if_neg n67_3).trans ((if_neg n67_4).trans ((if_neg n67_5).trans ((if_neg n67_6).trans ((if_pos e67_7).trans (rfl))))))))))).symm)
        · skip
          refine gx_tableIn (off := 187) (tgt := 254) C dX5_factOfPot_67 (by rw [sw_67]; decide) (by rw [sw_67]; decide) (by rw [sw_67]; rfl) (by decide) ?_
          have e67_8 : what = 8 := gsw_eq sw_67 (by decide)
          have n67_0 : ¬ what = 0 := gsw_n2 e67_8 (by decide)
          have n67_1 : ¬ what = 1 := gsw_n2 e67_8 (by decide)
          have n67_2 : ¬ what = 2 := gsw_n2 e67_8 (by decide)
          have n67_3 : ¬ what = 3 := gsw_n2 e67_8 (by decide)
          have n67_4 : ¬ what = 4 := gsw_n2 e67_8 (by decide)
          have n67_5 : ¬ what = 5 := gsw_n2 e67_8 (by decide)
          have n67_6 : ¬ what = 6 := gsw_n2 e67_8 (by decide)
          have n67_7 : ¬ what = 7 := gsw_n2 e67_8 (by decide)
          refine gx_iload (q := 0) C dX5_factOfPot_254 rfl ?_
          exact gx_iretR C rfl hr dX5_factOfPot_256 (congrArg Value.int ((if_pos h_8).trans ((if_pos h_31).trans ((if_neg n67_0).trans ((if_neg n67_1).trans ((if_neg n67_2).trans ((if_neg n67_3).trans ((if_neg n67_4).trans ((if_neg n67_5).trans ((if_neg n67_6).trans ((if_neg n67_7).trans ((if_pos e67_8).trans (rfl)))))))))))).symm)
    · skip
      have h_31 := bI0.mp c_31
      refine gx_aload_n (q := 1) C dX5_factOfPot_34 rfl ?_
      refine gx_get C (i := 2) (isWS_in hW 0 (Nat.le_of_ble_eq_true rfl)) (isWS_0 hW) rfl in_X5_factOfPot_5 (by decide) fl_X5_factOfPot_30 rfl dX5_factOfPot_35 ?_
      refine gx_iload_n (q := 2) C dX5_factOfPot_38 rfl ?_
      refine gx_iconst (v := 3) C dX5_factOfPot_39 (by decide) ?_
      refine gx_callR C (k_X3_isKind l hW _ _) (isWS_in hW 2 (Nat.le_of_ble_eq_true rfl)) (isWS_2 hW) rfl (cwV 2 C.2.2.2.2.1 gX5_factOfPot_X3_isKind rfl rfl rfl kdV_X3_isKind ⟨Nat.le_of_ble_eq_true rfl, Nat.le_of_ble_eq_true rfl⟩) rfl rfl (Nat.le_of_ble_eq_true rfl) ⟨Nat.le_of_ble_eq_true rfl, Nat.le_of_ble_eq_true rfl⟩ dX5_factOfPot_40 ?_
      refine gx_if_eq (tgt := 50) C dX5_factOfPot_43 (by decide) (fun c_43 => ?_) (fun c_43 => ?_)
      · skip
        have h_43 := bI0.mp c_43
        refine gx_iconst (v := 0) C dX5_factOfPot_50 (by decide) ?_
        refine gx_istore C [(4, _), (3, _), (0, _), (1, _), (2, _)] dX5_factOfPot_51 (by decide) rfl ?_
        refine gx_aload_n (q := 2) C dX5_factOfPot_53 rfl ?_
        refine gx_get C (i := 2) (isWS_in hW 0 (Nat.le_of_ble_eq_true rfl)) (isWS_0 hW) rfl in_X5_factOfPot_5 (by decide) fl_X5_factOfPot_30 rfl dX5_factOfPot_54 ?_
        refine gx_getN C (i := 7) (isWS_in hW 2 (Nat.le_of_ble_eq_true rfl)) (isWS_2 hW) rfl in_X5_factOfPot_3 (by decide) (by decide +kernel) rfl dX5_factOfPot_57 ?_
        refine gx_iload_n (q := 3) C dX5_factOfPot_60 rfl ?_
        refine gx_callR C (kw_X4_at l hW 9 (Nat.le_of_ble_eq_true rfl) 20 rfl _) (isWS_in hW 21 (Nat.le_of_ble_eq_true rfl)) (isWS_row hW 9 (Nat.le_of_ble_eq_true rfl)) rfl (cwV 1 C.2.2.2.2.1 gX5_factOfPot_X4_at rfl rfl rfl kdV_X4_at ⟨Nat.le_of_ble_eq_true rfl, Nat.le_of_ble_eq_true rfl⟩) rfl rfl (Nat.le_of_ble_eq_true rfl) ⟨Nat.le_of_ble_eq_true rfl, Nat.le_of_ble_eq_true rfl⟩ dX5_factOfPot_61 ?_
        refine gx_istore C [(5, _), (4, _), (3, _), (0, _), (1, _), (2, _)] dX5_factOfPot_64 (by decide) rfl ?_
        refine gx_iload_n (q := 5) C dX5_factOfPot_66 rfl ?_
        refine gsw_split 0 8 what ?_ ?_
        · intro sw_67
          refine gx_tableOut (tgt := 257) C dX5_factOfPot_67 sw_67 (by decide) ?_
          have n67_0 : ¬ what = 0 := gsw_ne sw_67 (by decide)
          have n67_1 : ¬ what = 1 := gsw_ne sw_67 (by decide)
          have n67_2 : ¬ what = 2 := gsw_ne sw_67 (by decide)
          have n67_3 : ¬ what = 3 := gsw_ne sw_67 (by decide)
          have n67_4 : ¬ what = 4 := gsw_ne sw_67 (by decide)
          have n67_5 : ¬ what = 5 := gsw_ne sw_67 (by decide)
          have n67_6 : ¬ what = 6 := gsw_ne sw_67 (by decide)
          have n67_7 : ¬ what = 7 := gsw_ne sw_67 (by decide)
          have n67_8 : ¬ what = 8 := gsw_ne sw_67 (by decide)
          refine gx_bipush (v := (-2)) C dX5_factOfPot_257 (by decide) ?_
          exact gx_iretR C rfl hr dX5_factOfPot_259 (congrArg Value.int ((if_pos h_8).trans ((if_neg (bF h_31)).trans ((if_neg (bF h_43)).trans ((if_neg n67_0).trans ((if_neg n67_1).trans ((if_neg n67_2).trans ((if_neg n67_3).trans ((if_neg n67_4).trans ((if_neg n67_5).trans ((if_neg n67_6).trans ((if_neg n67_7).trans ((if_neg n67_8).trans (rfl))))))))))))).symm)
        · intro j hj1 hj2 sw_67
          obtain rfl | rfl | rfl | rfl | rfl | rfl | rfl | rfl | rfl : j = 0 ∨ j = 1 ∨ j = 2 ∨ j = 3 ∨ j = 4 ∨ j = 5 ∨ j = 6 ∨ j = 7 ∨ j = 8 := by omega
          · skip
            refine gx_tableIn (off := 49) (tgt := 116) C dX5_factOfPot_67 (by rw [sw_67]; decide) (by rw [sw_67]; decide) (by rw [sw_67]; rfl) (by decide) ?_
            have e67_0 : what = 0 := gsw_eq sw_67 (by decide)
            refine gx_aload_n (q := 3) C dX5_factOfPot_116 rfl ?_
            refine gx_get C (i := 2) (isWS_in hW 0 (Nat.le_of_ble_eq_true rfl)) (isWS_0 hW) rfl in_X5_factOfPot_5 (by decide) fl_X5_factOfPot_30 rfl dX5_factOfPot_117 ?_
            refine gx_getN C (i := 0) (isWS_in hW 2 (Nat.le_of_ble_eq_true rfl)) (isWS_2 hW) rfl in_X5_factOfPot_3 (by decide) (by decide +kernel) rfl dX5_factOfPot_120 ?_
            refine gx_iload_n (q := 4) C dX5_factOfPot_123 rfl ?_
            refine gx_callR C (kw_X4_at l hW 2 (Nat.le_of_ble_eq_true rfl) 20 rfl _) (isWS_in hW 7 (Nat.le_of_ble_eq_true rfl)) (isWS_row hW 2 (Nat.le_of_ble_eq_true rfl)) rfl (cwV 1 C.2.2.2.2.1 gX5_factOfPot_X4_at rfl rfl rfl kdV_X4_at ⟨Nat.le_of_ble_eq_true rfl, Nat.le_of_ble_eq_true rfl⟩) rfl rfl (Nat.le_of_ble_eq_true rfl) ⟨Nat.le_of_ble_eq_true rfl, Nat.le_of_ble_eq_true rfl⟩ dX5_factOfPot_124 ?_
            exact gx_iretR C rfl hr dX5_factOfPot_127 (congrArg Value.int ((if_pos h_8).trans ((if_neg (bF h_31)).trans ((if_neg (bF h_43)).trans ((if_pos e67_0).trans (rfl))))).symm)
          · skip
            refine gx_tableIn (off := 61) (tgt := 128) C dX5_factOfPot_67 (by rw [sw_67]; decide) (by rw [sw_67]; decide) (by rw [sw_67]; rfl) (by decide) ?_
            have e67_1 : what = 1 := gsw_eq sw_67 (by decide)
            have n67_0 : ¬ what = 0 := gsw_n2 e67_1 (by decide)
            refine gx_aload_n (q := 3) C dX5_factOfPot_128 rfl ?_
            refine gx_get C (i := 2) (isWS_in hW 0 (Nat.le_of_ble_eq_true rfl)) (isWS_0 hW) rfl in_X5_factOfPot_5 (by decide) fl_X5_factOfPot_30 rfl dX5_factOfPot_129 ?_
            refine gx_getN C (i := 1) (isWS_in hW 2 (Nat.le_of_ble_eq_true rfl)) (isWS_2 hW) rfl in_X5_factOfPot_3 (by decide) (by decide +kernel) rfl dX5_factOfPot_132 ?_
            refine gx_iload_n (q := 4) C dX5_factOfPot_135 rfl ?_
            refine gx_callR C (kw_X4_at l hW 3 (Nat.le_of_ble_eq_true rfl) 20 rfl _) (isWS_in hW 9 (Nat.le_of_ble_eq_true rfl)) (isWS_row hW 3 (Nat.le_of_ble_eq_true rfl)) rfl (cwV 1 C.2.2.2.2.1 gX5_factOfPot_X4_at rfl rfl rfl kdV_X4_at ⟨Nat.le_of_ble_eq_true rfl, Nat.le_of_ble_eq_true rfl⟩) rfl rfl (Nat.le_of_ble_eq_true rfl) ⟨Nat.le_of_ble_eq_true rfl, Nat.le_of_ble_eq_true rfl⟩ dX5_factOfPot_136 ?_
            exact gx_iretR C rfl hr dX5_factOfPot_139 (congrArg Value.int ((if_pos h_8).trans ((if_neg (bF h_31)).trans ((if_neg (bF h_43)).trans ((if_neg n67_0).trans ((if_pos e67_1).trans (rfl)))))).symm)
          · skip
            refine gx_tableIn (off := 73) (tgt := 140) C dX5_factOfPot_67 (by rw [sw_67]; decide) (by rw [sw_67]; decide) (by rw [sw_67]; rfl) (by decide) ?_
            have e67_2 : what = 2 := gsw_eq sw_67 (by decide)
            have n67_0 : ¬ what = 0 := gsw_n2 e67_2 (by decide)
            have n67_1 : ¬ what = 1 := gsw_n2 e67_2 (by decide)
            refine gx_aload_n (q := 3) C dX5_factOfPot_140 rfl ?_
            refine gx_get C (i := 2) (isWS_in hW 0 (Nat.le_of_ble_eq_true rfl)) (isWS_0 hW) rfl in_X5_factOfPot_5 (by decide) fl_X5_factOfPot_30 rfl dX5_factOfPot_141 ?_
            refine gx_getN C (i := 3) (isWS_in hW 2 (Nat.le_of_ble_eq_true rfl)) (isWS_2 hW) rfl in_X5_factOfPot_3 (by decide) (by decide +kernel) rfl dX5_factOfPot_144 ?_
            refine gx_iload_n (q := 4) C dX5_factOfPot_147 rfl ?_
            refine gx_callR C (kw_X4_at l hW 5 (Nat.le_of_ble_eq_true rfl) 20 rfl _) (isWS_in hW 13 (Nat.le_of_ble_eq_true rfl)) (isWS_row hW 5 (Nat.le_of_ble_eq_true rfl)) rfl (cwV 1 C.2.2.2.2.1 gX5_factOfPot_X4_at rfl rfl rfl kdV_X4_at ⟨Nat.le_of_ble_eq_true rfl, Nat.le_of_ble_eq_true rfl⟩) rfl rfl (Nat.le_of_ble_eq_true rfl) ⟨Nat.le_of_ble_eq_true rfl, Nat.le_of_ble_eq_true rfl⟩ dX5_factOfPot_148 ?_
            exact gx_iretR C rfl hr dX5_factOfPot_151 (congrArg Value.int ((if_pos h_8).trans ((if_neg (bF h_31)).trans ((if_neg (bF h_43)).trans ((if_neg n67_0).trans ((if_neg n67_1).trans ((if_pos e67_2).trans (rfl))))))).symm)
          · skip
            refine gx_tableIn (off := 85) (tgt := 152) C dX5_factOfPot_67 (by rw [sw_67]; decide) (by rw [sw_67]; decide) (by rw [sw_67]; rfl) (by decide) ?_
            have e67_3 : what = 3 := gsw_eq sw_67 (by decide)
            have n67_0 : ¬ what = 0 := gsw_n2 e67_3 (by decide)
            have n67_1 : ¬ what = 1 := gsw_n2 e67_3 (by decide)
            have n67_2 : ¬ what = 2 := gsw_n2 e67_3 (by decide)
            refine gx_iload_n (q := 2) C dX5_factOfPot_152 rfl ?_
            refine gx_if_eq (tgt := 160) C dX5_factOfPot_153 (by decide) (fun c_153 => ?_) (fun c_153 => ?_)
            · skip
              have h_153 := bI0.mp c_153
              refine gx_aload_n (q := 3) C dX5_factOfPot_160 rfl ?_
              refine gx_get C (i := 2) (isWS_in hW 0 (Nat.le_of_ble_eq_true rfl)) (isWS_0 hW) rfl in_X5_factOfPot_5 (by decide) fl_X5_factOfPot_30 rfl dX5_factOfPot_161 ?_
              refine gx_iload_n (q := 4) C dX5_factOfPot_164 rfl ?_
              refine gx_callR C (k_X3_isInKiln l hW _) (isWS_in hW 2 (Nat.le_of_ble_eq_true rfl)) (isWS_2 hW) rfl (cwV 1 C.2.2.2.2.1 gX5_factOfPot_X3_isInKiln rfl rfl rfl kdV_X3_isInKiln ⟨Nat.le_of_ble_eq_true rfl, Nat.le_of_ble_eq_true rfl⟩) rfl rfl (Nat.le_of_ble_eq_true rfl) ⟨Nat.le_of_ble_eq_true rfl, Nat.le_of_ble_eq_true rfl⟩ dX5_factOfPot_165 ?_
              refine gx_if_eq (tgt := 175) C dX5_factOfPot_168 (by decide) (fun c_168 => ?_) (fun c_168 => ?_)
              · skip
                have h_168 := bI0.mp c_168
                refine gx_iconst (v := 2) C dX5_factOfPot_175 (by decide) ?_
                exact gx_iretR C rfl hr dX5_factOfPot_176 (congrArg Value.int ((if_pos h_8).trans ((if_neg (bF h_31)).trans ((if_neg (bF h_43)).trans ((if_neg n67_0).trans ((if_neg n67_1).trans ((if_neg n67_2).trans ((if_pos e67_3).trans ((if_neg (bF h_153)).trans ((if_neg (bF h_168)).trans (rfl)))))))))).symm)
              · skip
                have h_168 := bI1.mp c_168
                refine gx_iconst (v := 1) C dX5_factOfPot_171 (by decide) ?_
                refine gx_goto (tgt := 176) C dX5_factOfPot_172 (by decide) ?_
                exact gx_iretR C rfl hr dX5_factOfPot_176 (congrArg Value.int ((if_pos h_8).trans ((if_neg (bF h_31)).trans ((if_neg (bF h_43)).trans ((if_neg n67_0).trans ((if_neg n67_1).trans ((if_neg n67_2).trans ((if_pos e67_3).trans ((if_neg (bF h_153)).trans ((if_pos h_168).trans (rfl)))))))))).symm)
            · skip
              have h_153 := bI1.mp c_153
              refine gx_iconst (v := 0) C dX5_factOfPot_156 (by decide) ?_
              refine gx_goto (tgt := 176) C dX5_factOfPot_157 (by decide) ?_
              exact gx_iretR C rfl hr dX5_factOfPot_176 (congrArg Value.int ((if_pos h_8).trans ((if_neg (bF h_31)).trans ((if_neg (bF h_43)).trans ((if_neg n67_0).trans ((if_neg n67_1).trans ((if_neg n67_2).trans ((if_pos e67_3).trans ((if_pos h_153).trans (rfl))))))))).symm)
          · skip
            refine gx_tableIn (off := 110) (tgt := 177) C dX5_factOfPot_67 (by rw [sw_67]; decide) (by rw [sw_67]; decide) (by rw [sw_67]; rfl) (by decide) ?_
            have e67_4 : what = 4 := gsw_eq sw_67 (by decide)
            have n67_0 : ¬ what = 0 := gsw_n2 e67_4 (by decide)
            have n67_1 : ¬ what = 1 := gsw_n2 e67_4 (by decide)
            have n67_2 : ¬ what = 2 := gsw_n2 e67_4 (by decide)
            have n67_3 : ¬ what = 3 := gsw_n2 e67_4 (by decide)
            refine gx_iload_n (q := 2) C dX5_factOfPot_177 rfl ?_
            refine gx_if_eq (tgt := 195) C dX5_factOfPot_178 (by decide) (fun c_178 => ?_) (fun c_178 => ?_)
            · skip
              have h_178 := bI0.mp c_178
              refine gx_bipush (v := (-6)) C dX5_factOfPot_195 (by decide) ?_
              exact gx_iretR C rfl hr dX5_factOfPot_197 (congrArg Value.int ((if_pos h_8).trans ((if_neg (bF h_31)).trans ((if_neg (bF h_43)).trans ((if_neg n67_0).trans ((if_neg n67_1).trans ((if_neg n67_2).trans ((if_neg n67_3).trans ((if_pos e67_4).trans ((if_neg (bF h_178)).trans (rfl)))))))))).symm)
            · skip
              have h_178 := bI1.mp c_178
              refine gx_aload_n (q := 3) C dX5_factOfPot_181 rfl ?_
              refine gx_get C (i := 2) (isWS_in hW 0 (Nat.le_of_ble_eq_true rfl)) (isWS_0 hW) rfl in_X5_factOfPot_5 (by decide) fl_X5_factOfPot_30 rfl dX5_factOfPot_182 ?_
              refine gx_getN C (i := 4) (isWS_in hW 2 (Nat.le_of_ble_eq_true rfl)) (isWS_2 hW) rfl in_X5_factOfPot_3 (by decide) (by decide +kernel) rfl dX5_factOfPot_185 ?_
              refine gx_iload_n (q := 4) C dX5_factOfPot_188 rfl ?_
              refine gx_callR C (kw_X4_at l hW 6 (Nat.le_of_ble_eq_true rfl) 20 rfl _) (isWS_in hW 15 (Nat.le_of_ble_eq_true rfl)) (isWS_row hW 6 (Nat.le_of_ble_eq_true rfl)) rfl (cwV 1 C.2.2.2.2.1 gX5_factOfPot_X4_at rfl rfl rfl kdV_X4_at ⟨Nat.le_of_ble_eq_true rfl, Nat.le_of_ble_eq_true rfl⟩) rfl rfl (Nat.le_of_ble_eq_true rfl) ⟨Nat.le_of_ble_eq_true rfl, Nat.le_of_ble_eq_true rfl⟩ dX5_factOfPot_189 ?_
              refine gx_goto (tgt := 197) C dX5_factOfPot_192 (by decide) ?_
              exact gx_iretR C rfl hr dX5_factOfPot_197 (congrArg Value.int ((if_pos h_8).trans ((if_neg (bF h_31)).trans ((if_neg (bF h_43)).trans ((if_neg n67_0).trans ((if_neg n67_1).trans ((if_neg n67_2).trans ((if_neg n67_3).trans ((if_pos e67_4).trans ((if_pos h_178).trans (rfl)))))))))).symm)
          · skip
            refine gx_tableIn (off := 131) (tgt := 198) C dX5_factOfPot_67 (by rw [sw_67]; decide) (by rw [sw_67]; decide) (by rw [sw_67]; rfl) (by decide) ?_
            have e67_5 : what = 5 := gsw_eq sw_67 (by decide)
            have n67_0 : ¬ what = 0 := gsw_n2 e67_5 (by decide)
            have n67_1 : ¬ what = 1 := gsw_n2 e67_5 (by decide)
            have n67_2 : ¬ what = 2 := gsw_n2 e67_5 (by decide)
            have n67_3 : ¬ what = 3 := gsw_n2 e67_5 (by decide)
            have n67_4 : ¬ what = 4 := gsw_n2 e67_5 (by decide)
            refine gx_aload_n (q := 3) C dX5_factOfPot_198 rfl ?_
            refine gx_get C (i := 2) (isWS_in hW 0 (Nat.le_of_ble_eq_true rfl)) (isWS_0 hW) rfl in_X5_factOfPot_5 (by decide) fl_X5_factOfPot_30 rfl dX5_factOfPot_199 ?_
            refine gx_getN C (i := 5) (isWS_in hW 2 (Nat.le_of_ble_eq_true rfl)) (isWS_2 hW) rfl in_X5_factOfPot_3 (by decide) (by decide +kernel) rfl dX5_factOfPot_202 ?_
            refine gx_iload_n (q := 4) C dX5_factOfPot_205 rfl ?_
            refine gx_callR C (kw_X4_at l hW 7 (Nat.le_of_ble_eq_true rfl) 20 rfl _) (isWS_in hW 17 (Nat.le_of_ble_eq_true rfl)) (isWS_row hW 7 (Nat.le_of_ble_eq_true rfl)) rfl (cwV 1 C.2.2.2.2.1 gX5_factOfPot_X4_at rfl rfl rfl kdV_X4_at ⟨Nat.le_of_ble_eq_true rfl, Nat.le_of_ble_eq_true rfl⟩) rfl rfl (Nat.le_of_ble_eq_true rfl) ⟨Nat.le_of_ble_eq_true rfl, Nat.le_of_ble_eq_true rfl⟩ dX5_factOfPot_206 ?_
            exact gx_iretR C rfl hr dX5_factOfPot_209 (congrArg Value.int ((if_pos h_8).trans ((if_neg (bF h_31)).trans ((if_neg (bF h_43)).trans ((if_neg n67_0).trans ((if_neg n67_1).trans ((if_neg n67_2).trans ((if_neg n67_3).trans ((if_neg n67_4).trans ((if_pos e67_5).trans (rfl)))))))))).symm)
          · skip
            refine gx_tableIn (off := 143) (tgt := 210) C dX5_factOfPot_67 (by rw [sw_67]; decide) (by rw [sw_67]; decide) (by rw [sw_67]; rfl) (by decide) ?_
            have e67_6 : what = 6 := gsw_eq sw_67 (by decide)
            have n67_0 : ¬ what = 0 := gsw_n2 e67_6 (by decide)
            have n67_1 : ¬ what = 1 := gsw_n2 e67_6 (by decide)
            have n67_2 : ¬ what = 2 := gsw_n2 e67_6 (by decide)
            have n67_3 : ¬ what = 3 := gsw_n2 e67_6 (by decide)
            have n67_4 : ¬ what = 4 := gsw_n2 e67_6 (by decide)
            have n67_5 : ¬ what = 5 := gsw_n2 e67_6 (by decide)
            refine gx_iload (q := 0) C dX5_factOfPot_210 rfl ?_
            refine gx_if_ne (tgt := 220) C dX5_factOfPot_212 (by decide) (fun c_212 => ?_) (fun c_212 => ?_)
            · skip
              refine gx_aload_n (q := 3) C dX5_factOfPot_220 rfl ?_
              refine gx_get C (i := 2) (isWS_in hW 0 (Nat.le_of_ble_eq_true rfl)) (isWS_0 hW) rfl in_X5_factOfPot_5 (by decide) fl_X5_factOfPot_30 rfl dX5_factOfPot_221 ?_
              refine gx_getN C (i := 2) (isWS_in hW 2 (Nat.le_of_ble_eq_true rfl)) (isWS_2 hW) rfl in_X5_factOfPot_3 (by decide) (by decide +kernel) rfl dX5_factOfPot_224 ?_
              refine gx_iload_n (q := 4) C dX5_factOfPot_227 rfl ?_
              refine gx_callR C (kw_X4_at l hW 4 (Nat.le_of_ble_eq_true rfl) 20 rfl _) (isWS_in hW 11 (Nat.le_of_ble_eq_true rfl)) (isWS_row hW 4 (Nat.le_of_ble_eq_true rfl)) rfl (cwV 1 C.2.2.2.2.1 gX5_factOfPot_X4_at rfl rfl rfl kdV_X4_at ⟨Nat.le_of_ble_eq_true rfl, Nat.le_of_ble_eq_true rfl⟩) rfl rfl (Nat.le_of_ble_eq_true rfl) ⟨Nat.le_of_ble_eq_true rfl, Nat.le_of_ble_eq_true rfl⟩ dX5_factOfPot_228 ?_
              exact gx_iretR C rfl hr dX5_factOfPot_231 (congrArg Value.int ((if_pos h_8).trans ((if_neg (bF h_31)).trans ((if_neg (bF h_43)).trans ((if_neg n67_0).trans ((if_neg n67_1).trans ((if_neg n67_2).trans ((if_neg n67_3).trans ((if_neg n67_4).trans ((if_neg n67_5).trans ((if_pos e67_6).trans ((if_neg c_212).trans (rfl)))))))))))).symm)
            · skip
              refine gx_bipush (v := (-6)) C dX5_factOfPot_215 (by decide) ?_
              refine gx_goto (tgt := 231) C dX5_factOfPot_217 (by decide) ?_
              exact gx_iretR C rfl hr dX5_factOfPot_231 (congrArg Value.int ((if_pos h_8).trans ((if_neg (bF h_31)).trans ((if_neg (bF h_43)).trans ((if_neg n67_0).trans ((if_neg n67_1).trans ((if_neg n67_2).trans ((if_neg n67_3).trans ((if_neg n67_4).trans ((if_neg n67_5).trans ((if_pos e67_6).trans ((if_pos c_212).trans (rfl)))))))))))).symm)
          · skip
            refine gx_tableIn (off := 165) (tgt := 232) C dX5_factOfPot_67 (by rw [sw_67]; decide) (by rw [sw_67]; decide) (by rw [sw_67]; rfl) (by decide) ?_
            have e67_7 : what = 7 := gsw_eq sw_67 (by decide)
            have n67_0 : ¬ what = 0 := gsw_n2 e67_7 (by decide)
            have n67_1 : ¬ what = 1 := gsw_n2 e67_7 (by decide)
            have n67_2 : ¬ what = 2 := gsw_n2 e67_7 (by decide)
            have n67_3 : ¬ what = 3 := gsw_n2 e67_7 (by decide)
            have n67_4 : ¬ what = 4 := gsw_n2 e67_7 (by decide)
            have n67_5 : ¬ what = 5 := gsw_n2 e67_7 (by decide)
            have n67_6 : ¬ what = 6 := gsw_n2 e67_7 (by decide)
            refine gx_iload (q := 1) C dX5_factOfPot_232 rfl ?_
            refine gx_if_eq (tgt := 251) C dX5_factOfPot_234 (by decide) (fun c_234 => ?_) (fun c_234 => ?_)
            refine gx_bipush (v := (-6)) C dX5_factOfPot_251 (by decide) ?_
            exact gx_iretR C rfl hr dX5_factOfPot_253 (congrArg Value.int ((if_pos h_8).trans ((if_neg (bF h_31)).trans ((if_neg (bF h_43)).trans ((if_neg n67_0).trans ((if_neg n67_1).trans ((if_neg n67_2).trans ((if_neg n67_3).trans ((if_neg n67_4).trans ((if_neg n67_5).trans ((if_neg n67_6).trans ((if_pos e67_7).trans (rfl)))))))))))).symm)
            exact absurd (by decide) c_234
          · skip
            refine gx_tableIn (off := 187) (tgt := 254) C dX5_factOfPot_67 (by rw [sw_67]; decide) (by rw [sw_67]; decide) (by rw [sw_67]; rfl) (by decide) ?_
            have e67_8 : what = 8 := gsw_eq sw_67 (by decide)
            have n67_0 : ¬ what = 0 := gsw_n2 e67_8 (by decide)
            have n67_1 : ¬ what = 1 := gsw_n2 e67_8 (by decide)
            have n67_2 : ¬ what = 2 := gsw_n2 e67_8 (by decide)
            have n67_3 : ¬ what = 3 := gsw_n2 e67_8 (by decide)
            have n67_4 : ¬ what = 4 := gsw_n2 e67_8 (by decide)
            have n67_5 : ¬ what = 5 := gsw_n2 e67_8 (by decide)
            have n67_6 : ¬ what = 6 := gsw_n2 e67_8 (by decide)
            have n67_7 : ¬ what = 7 := gsw_n2 e67_8 (by decide)
            refine gx_iload (q := 0) C dX5_factOfPot_254 rfl ?_
            exact gx_iretR C rfl hr dX5_factOfPot_256 (congrArg Value.int ((if_pos h_8).trans ((if_neg (bF h_31)).trans ((if_neg (bF h_43)).trans ((if_neg n67_0).trans ((if_neg n67_1).trans ((if_neg n67_2).trans ((if_neg n67_3).trans ((if_neg n67_4).trans ((if_neg n67_5).trans ((if_neg n67_6).trans ((if_neg n67_7).trans ((if_pos e67_8).trans (rfl))))))))))))).symm)
      · skip
        have h_43 := bI1.mp c_43
        refine gx_iconst (v := 1) C dX5_factOfPot_46 (by decide) ?_
        refine gx_goto (tgt := 51) C dX5_factOfPot_47 (by decide) ?_
        refine gx_istore C [(4, _), (3, _), (0, _), (1, _), (2, _)] dX5_factOfPot_51 (by decide) rfl ?_
        refine gx_aload_n (q := 2) C dX5_factOfPot_53 rfl ?_
        refine gx_get C (i := 2) (isWS_in hW 0 (Nat.le_of_ble_eq_true rfl)) (isWS_0 hW) rfl in_X5_factOfPot_5 (by decide) fl_X5_factOfPot_30 rfl dX5_factOfPot_54 ?_
        refine gx_getN C (i := 7) (isWS_in hW 2 (Nat.le_of_ble_eq_true rfl)) (isWS_2 hW) rfl in_X5_factOfPot_3 (by decide) (by decide +kernel) rfl dX5_factOfPot_57 ?_
        refine gx_iload_n (q := 3) C dX5_factOfPot_60 rfl ?_
        refine gx_callR C (kw_X4_at l hW 9 (Nat.le_of_ble_eq_true rfl) 20 rfl _) (isWS_in hW 21 (Nat.le_of_ble_eq_true rfl)) (isWS_row hW 9 (Nat.le_of_ble_eq_true rfl)) rfl (cwV 1 C.2.2.2.2.1 gX5_factOfPot_X4_at rfl rfl rfl kdV_X4_at ⟨Nat.le_of_ble_eq_true rfl, Nat.le_of_ble_eq_true rfl⟩) rfl rfl (Nat.le_of_ble_eq_true rfl) ⟨Nat.le_of_ble_eq_true rfl, Nat.le_of_ble_eq_true rfl⟩ dX5_factOfPot_61 ?_
        refine gx_istore C [(5, _), (4, _), (3, _), (0, _), (1, _), (2, _)] dX5_factOfPot_64 (by decide) rfl ?_
        refine gx_iload_n (q := 5) C dX5_factOfPot_66 rfl ?_
        refine gsw_split 0 8 what ?_ ?_
        · intro sw_67
          refine gx_tableOut (tgt := 257) C dX5_factOfPot_67 sw_67 (by decide) ?_
          have n67_0 : ¬ what = 0 := gsw_ne sw_67 (by decide)
          have n67_1 : ¬ what = 1 := gsw_ne sw_67 (by decide)
          have n67_2 : ¬ what = 2 := gsw_ne sw_67 (by decide)
          have n67_3 : ¬ what = 3 := gsw_ne sw_67 (by decide)
          have n67_4 : ¬ what = 4 := gsw_ne sw_67 (by decide)
          have n67_5 : ¬ what = 5 := gsw_ne sw_67 (by decide)
          have n67_6 : ¬ what = 6 := gsw_ne sw_67 (by decide)
          have n67_7 : ¬ what = 7 := gsw_ne sw_67 (by decide)
          have n67_8 : ¬ what = 8 := gsw_ne sw_67 (by decide)
          refine gx_bipush (v := (-2)) C dX5_factOfPot_257 (by decide) ?_
          exact gx_iretR C rfl hr dX5_factOfPot_259 (congrArg Value.int ((if_pos h_8).trans ((if_neg (bF h_31)).trans ((if_pos h_43).trans ((if_neg n67_0).trans ((if_neg n67_1).trans ((if_neg n67_2).trans ((if_neg n67_3).trans ((if_neg n67_4).trans ((if_neg n67_5).trans ((if_neg n67_6).trans ((if_neg n67_7).trans ((if_neg n67_8).trans (rfl))))))))))))).symm)
        · intro j hj1 hj2 sw_67
          obtain rfl | rfl | rfl | rfl | rfl | rfl | rfl | rfl | rfl : j = 0 ∨ j = 1 ∨ j = 2 ∨ j = 3 ∨ j = 4 ∨ j = 5 ∨ j = 6 ∨ j = 7 ∨ j = 8 := by omega
          · skip
            refine gx_tableIn (off := 49) (tgt := 116) C dX5_factOfPot_67 (by rw [sw_67]; decide) (by rw [sw_67]; decide) (by rw [sw_67]; rfl) (by decide) ?_
            have e67_0 : what = 0 := gsw_eq sw_67 (by decide)
            refine gx_aload_n (q := 3) C dX5_factOfPot_116 rfl ?_
            refine gx_get C (i := 2) (isWS_in hW 0 (Nat.le_of_ble_eq_true rfl)) (isWS_0 hW) rfl in_X5_factOfPot_5 (by decide) fl_X5_factOfPot_30 rfl dX5_factOfPot_117 ?_
            refine gx_getN C (i := 0) (isWS_in hW 2 (Nat.le_of_ble_eq_true rfl)) (isWS_2 hW) rfl in_X5_factOfPot_3 (by decide) (by decide +kernel) rfl dX5_factOfPot_120 ?_
            refine gx_iload_n (q := 4) C dX5_factOfPot_123 rfl ?_
            refine gx_callR C (kw_X4_at l hW 2 (Nat.le_of_ble_eq_true rfl) 20 rfl _) (isWS_in hW 7 (Nat.le_of_ble_eq_true rfl)) (isWS_row hW 2 (Nat.le_of_ble_eq_true rfl)) rfl (cwV 1 C.2.2.2.2.1 gX5_factOfPot_X4_at rfl rfl rfl kdV_X4_at ⟨Nat.le_of_ble_eq_true rfl, Nat.le_of_ble_eq_true rfl⟩) rfl rfl (Nat.le_of_ble_eq_true rfl) ⟨Nat.le_of_ble_eq_true rfl, Nat.le_of_ble_eq_true rfl⟩ dX5_factOfPot_124 ?_
            exact gx_iretR C rfl hr dX5_factOfPot_127 (congrArg Value.int ((if_pos h_8).trans ((if_neg (bF h_31)).trans ((if_pos h_43).trans ((if_pos e67_0).trans (rfl))))).symm)
          · skip
            refine gx_tableIn (off := 61) (tgt := 128) C dX5_factOfPot_67 (by rw [sw_67]; decide) (by rw [sw_67]; decide) (by rw [sw_67]; rfl) (by decide) ?_
            have e67_1 : what = 1 := gsw_eq sw_67 (by decide)
            have n67_0 : ¬ what = 0 := gsw_n2 e67_1 (by decide)
            refine gx_aload_n (q := 3) C dX5_factOfPot_128 rfl ?_
            refine gx_get C (i := 2) (isWS_in hW 0 (Nat.le_of_ble_eq_true rfl)) (isWS_0 hW) rfl in_X5_factOfPot_5 (by decide) fl_X5_factOfPot_30 rfl dX5_factOfPot_129 ?_
            refine gx_getN C (i := 1) (isWS_in hW 2 (Nat.le_of_ble_eq_true rfl)) (isWS_2 hW) rfl in_X5_factOfPot_3 (by decide) (by decide +kernel) rfl dX5_factOfPot_132 ?_
            refine gx_iload_n (q := 4) C dX5_factOfPot_135 rfl ?_
            refine gx_callR C (kw_X4_at l hW 3 (Nat.le_of_ble_eq_true rfl) 20 rfl _) (isWS_in hW 9 (Nat.le_of_ble_eq_true rfl)) (isWS_row hW 3 (Nat.le_of_ble_eq_true rfl)) rfl (cwV 1 C.2.2.2.2.1 gX5_factOfPot_X4_at rfl rfl rfl kdV_X4_at ⟨Nat.le_of_ble_eq_true rfl, Nat.le_of_ble_eq_true rfl⟩) rfl rfl (Nat.le_of_ble_eq_true rfl) ⟨Nat.le_of_ble_eq_true rfl, Nat.le_of_ble_eq_true rfl⟩ dX5_factOfPot_136 ?_
            exact gx_iretR C rfl hr dX5_factOfPot_139 (congrArg Value.int ((if_pos h_8).trans ((if_neg (bF h_31)).trans ((if_pos h_43).trans ((if_neg n67_0).trans ((if_pos e67_1).trans (rfl)))))).symm)
          · skip
            refine gx_tableIn (off := 73) (tgt := 140) C dX5_factOfPot_67 (by rw [sw_67]; decide) (by rw [sw_67]; decide) (by rw [sw_67]; rfl) (by decide) ?_
            have e67_2 : what = 2 := gsw_eq sw_67 (by decide)
            have n67_0 : ¬ what = 0 := gsw_n2 e67_2 (by decide)
            have n67_1 : ¬ what = 1 := gsw_n2 e67_2 (by decide)
            refine gx_aload_n (q := 3) C dX5_factOfPot_140 rfl ?_
            refine gx_get C (i := 2) (isWS_in hW 0 (Nat.le_of_ble_eq_true rfl)) (isWS_0 hW) rfl in_X5_factOfPot_5 (by decide) fl_X5_factOfPot_30 rfl dX5_factOfPot_141 ?_
            refine gx_getN C (i := 3) (isWS_in hW 2 (Nat.le_of_ble_eq_true rfl)) (isWS_2 hW) rfl in_X5_factOfPot_3 (by decide) (by decide +kernel) rfl dX5_factOfPot_144 ?_
            refine gx_iload_n (q := 4) C dX5_factOfPot_147 rfl ?_
            refine gx_callR C (kw_X4_at l hW 5 (Nat.le_of_ble_eq_true rfl) 20 rfl _) (isWS_in hW 13 (Nat.le_of_ble_eq_true rfl)) (isWS_row hW 5 (Nat.le_of_ble_eq_true rfl)) rfl (cwV 1 C.2.2.2.2.1 gX5_factOfPot_X4_at rfl rfl rfl kdV_X4_at ⟨Nat.le_of_ble_eq_true rfl, Nat.le_of_ble_eq_true rfl⟩) rfl rfl (Nat.le_of_ble_eq_true rfl) ⟨Nat.le_of_ble_eq_true rfl, Nat.le_of_ble_eq_true rfl⟩ dX5_factOfPot_148 ?_
            exact gx_iretR C rfl hr dX5_factOfPot_151 (congrArg Value.int ((if_pos h_8).trans ((if_neg (bF h_31)).trans ((if_pos h_43).trans ((if_neg n67_0).trans ((if_neg n67_1).trans ((if_pos e67_2).trans (rfl))))))).symm)
          · skip
            refine gx_tableIn (off := 85) (tgt := 152) C dX5_factOfPot_67 (by rw [sw_67]; decide) (by rw [sw_67]; decide) (by rw [sw_67]; rfl) (by decide) ?_
            have e67_3 : what = 3 := gsw_eq sw_67 (by decide)
            have n67_0 : ¬ what = 0 := gsw_n2 e67_3 (by decide)
            have n67_1 : ¬ what = 1 := gsw_n2 e67_3 (by decide)
            have n67_2 : ¬ what = 2 := gsw_n2 e67_3 (by decide)
            refine gx_iload_n (q := 2) C dX5_factOfPot_152 rfl ?_
            refine gx_if_eq (tgt := 160) C dX5_factOfPot_153 (by decide) (fun c_153 => ?_) (fun c_153 => ?_)
            · skip
              have h_153 := bI0.mp c_153
              refine gx_aload_n (q := 3) C dX5_factOfPot_160 rfl ?_
              refine gx_get C (i := 2) (isWS_in hW 0 (Nat.le_of_ble_eq_true rfl)) (isWS_0 hW) rfl in_X5_factOfPot_5 (by decide) fl_X5_factOfPot_30 rfl dX5_factOfPot_161 ?_
              refine gx_iload_n (q := 4) C dX5_factOfPot_164 rfl ?_
              refine gx_callR C (k_X3_isInKiln l hW _) (isWS_in hW 2 (Nat.le_of_ble_eq_true rfl)) (isWS_2 hW) rfl (cwV 1 C.2.2.2.2.1 gX5_factOfPot_X3_isInKiln rfl rfl rfl kdV_X3_isInKiln ⟨Nat.le_of_ble_eq_true rfl, Nat.le_of_ble_eq_true rfl⟩) rfl rfl (Nat.le_of_ble_eq_true rfl) ⟨Nat.le_of_ble_eq_true rfl, Nat.le_of_ble_eq_true rfl⟩ dX5_factOfPot_165 ?_
              refine gx_if_eq (tgt := 175) C dX5_factOfPot_168 (by decide) (fun c_168 => ?_) (fun c_168 => ?_)
              · skip
                have h_168 := bI0.mp c_168
                refine gx_iconst (v := 2) C dX5_factOfPot_175 (by decide) ?_
                exact gx_iretR C rfl hr dX5_factOfPot_176 (congrArg Value.int ((if_pos h_8).trans ((if_neg (bF h_31)).trans ((if_pos h_43).trans ((if_neg n67_0).trans ((if_neg n67_1).trans ((if_neg n67_2).trans ((if_pos e67_3).trans ((if_neg (bF h_153)).trans ((if_neg (bF h_168)).trans (rfl)))))))))).symm)
              · skip
                have h_168 := bI1.mp c_168
                refine gx_iconst (v := 1) C dX5_factOfPot_171 (by decide) ?_
                refine gx_goto (tgt := 176) C dX5_factOfPot_172 (by decide) ?_
                exact gx_iretR C rfl hr dX5_factOfPot_176 (congrArg Value.int ((if_pos h_8).trans ((if_neg (bF h_31)).trans ((if_pos h_43).trans ((if_neg n67_0).trans ((if_neg n67_1).trans ((if_neg n67_2).trans ((if_pos e67_3).trans ((if_neg (bF h_153)).trans ((if_pos h_168).trans (rfl)))))))))).symm)
            · skip
              have h_153 := bI1.mp c_153
              refine gx_iconst (v := 0) C dX5_factOfPot_156 (by decide) ?_
              refine gx_goto (tgt := 176) C dX5_factOfPot_157 (by decide) ?_
              exact gx_iretR C rfl hr dX5_factOfPot_176 (congrArg Value.int ((if_pos h_8).trans ((if_neg (bF h_31)).trans ((if_pos h_43).trans ((if_neg n67_0).trans ((if_neg n67_1).trans ((if_neg n67_2).trans ((if_pos e67_3).trans ((if_pos h_153).trans (rfl))))))))).symm)
          · skip
            refine gx_tableIn (off := 110) (tgt := 177) C dX5_factOfPot_67 (by rw [sw_67]; decide) (by rw [sw_67]; decide) (by rw [sw_67]; rfl) (by decide) ?_
            have e67_4 : what = 4 := gsw_eq sw_67 (by decide)
            have n67_0 : ¬ what = 0 := gsw_n2 e67_4 (by decide)
            have n67_1 : ¬ what = 1 := gsw_n2 e67_4 (by decide)
            have n67_2 : ¬ what = 2 := gsw_n2 e67_4 (by decide)
            have n67_3 : ¬ what = 3 := gsw_n2 e67_4 (by decide)
            refine gx_iload_n (q := 2) C dX5_factOfPot_177 rfl ?_
            refine gx_if_eq (tgt := 195) C dX5_factOfPot_178 (by decide) (fun c_178 => ?_) (fun c_178 => ?_)
            · skip
              have h_178 := bI0.mp c_178
              refine gx_bipush (v := (-6)) C dX5_factOfPot_195 (by decide) ?_
              exact gx_iretR C rfl hr dX5_factOfPot_197 (congrArg Value.int ((if_pos h_8).trans ((if_neg (bF h_31)).trans ((if_pos h_43).trans ((if_neg n67_0).trans ((if_neg n67_1).trans ((if_neg n67_2).trans ((if_neg n67_3).trans ((if_pos e67_4).trans ((if_neg (bF h_178)).trans (rfl)))))))))).symm)
            · skip
              have h_178 := bI1.mp c_178
              refine gx_aload_n (q := 3) C dX5_factOfPot_181 rfl ?_
              refine gx_get C (i := 2) (isWS_in hW 0 (Nat.le_of_ble_eq_true rfl)) (isWS_0 hW) rfl in_X5_factOfPot_5 (by decide) fl_X5_factOfPot_30 rfl dX5_factOfPot_182 ?_
              refine gx_getN C (i := 4) (isWS_in hW 2 (Nat.le_of_ble_eq_true rfl)) (isWS_2 hW) rfl in_X5_factOfPot_3 (by decide) (by decide +kernel) rfl dX5_factOfPot_185 ?_
              refine gx_iload_n (q := 4) C dX5_factOfPot_188 rfl ?_
              refine gx_callR C (kw_X4_at l hW 6 (Nat.le_of_ble_eq_true rfl) 20 rfl _) (isWS_in hW 15 (Nat.le_of_ble_eq_true rfl)) (isWS_row hW 6 (Nat.le_of_ble_eq_true rfl)) rfl (cwV 1 C.2.2.2.2.1 gX5_factOfPot_X4_at rfl rfl rfl kdV_X4_at ⟨Nat.le_of_ble_eq_true rfl, Nat.le_of_ble_eq_true rfl⟩) rfl rfl (Nat.le_of_ble_eq_true rfl) ⟨Nat.le_of_ble_eq_true rfl, Nat.le_of_ble_eq_true rfl⟩ dX5_factOfPot_189 ?_
              refine gx_goto (tgt := 197) C dX5_factOfPot_192 (by decide) ?_
              exact gx_iretR C rfl hr dX5_factOfPot_197 (congrArg Value.int ((if_pos h_8).trans ((if_neg (bF h_31)).trans ((if_pos h_43).trans ((if_neg n67_0).trans ((if_neg n67_1).trans ((if_neg n67_2).trans ((if_neg n67_3).trans ((if_pos e67_4).trans ((if_pos h_178).trans (rfl)))))))))).symm)
          · skip
            refine gx_tableIn (off := 131) (tgt := 198) C dX5_factOfPot_67 (by rw [sw_67]; decide) (by rw [sw_67]; decide) (by rw [sw_67]; rfl) (by decide) ?_
            have e67_5 : what = 5 := gsw_eq sw_67 (by decide)
            have n67_0 : ¬ what = 0 := gsw_n2 e67_5 (by decide)
            have n67_1 : ¬ what = 1 := gsw_n2 e67_5 (by decide)
            have n67_2 : ¬ what = 2 := gsw_n2 e67_5 (by decide)
            have n67_3 : ¬ what = 3 := gsw_n2 e67_5 (by decide)
            have n67_4 : ¬ what = 4 := gsw_n2 e67_5 (by decide)
            refine gx_aload_n (q := 3) C dX5_factOfPot_198 rfl ?_
            refine gx_get C (i := 2) (isWS_in hW 0 (Nat.le_of_ble_eq_true rfl)) (isWS_0 hW) rfl in_X5_factOfPot_5 (by decide) fl_X5_factOfPot_30 rfl dX5_factOfPot_199 ?_
            refine gx_getN C (i := 5) (isWS_in hW 2 (Nat.le_of_ble_eq_true rfl)) (isWS_2 hW) rfl in_X5_factOfPot_3 (by decide) (by decide +kernel) rfl dX5_factOfPot_202 ?_
            refine gx_iload_n (q := 4) C dX5_factOfPot_205 rfl ?_
            refine gx_callR C (kw_X4_at l hW 7 (Nat.le_of_ble_eq_true rfl) 20 rfl _) (isWS_in hW 17 (Nat.le_of_ble_eq_true rfl)) (isWS_row hW 7 (Nat.le_of_ble_eq_true rfl)) rfl (cwV 1 C.2.2.2.2.1 gX5_factOfPot_X4_at rfl rfl rfl kdV_X4_at ⟨Nat.le_of_ble_eq_true rfl, Nat.le_of_ble_eq_true rfl⟩) rfl rfl (Nat.le_of_ble_eq_true rfl) ⟨Nat.le_of_ble_eq_true rfl, Nat.le_of_ble_eq_true rfl⟩ dX5_factOfPot_206 ?_
            exact gx_iretR C rfl hr dX5_factOfPot_209 (congrArg Value.int ((if_pos h_8).trans ((if_neg (bF h_31)).trans ((if_pos h_43).trans ((if_neg n67_0).trans ((if_neg n67_1).trans ((if_neg n67_2).trans ((if_neg n67_3).trans ((if_neg n67_4).trans ((if_pos e67_5).trans (rfl)))))))))).symm)
          · skip
            refine gx_tableIn (off := 143) (tgt := 210) C dX5_factOfPot_67 (by rw [sw_67]; decide) (by rw [sw_67]; decide) (by rw [sw_67]; rfl) (by decide) ?_
            have e67_6 : what = 6 := gsw_eq sw_67 (by decide)
            have n67_0 : ¬ what = 0 := gsw_n2 e67_6 (by decide)
            have n67_1 : ¬ what = 1 := gsw_n2 e67_6 (by decide)
            have n67_2 : ¬ what = 2 := gsw_n2 e67_6 (by decide)
            have n67_3 : ¬ what = 3 := gsw_n2 e67_6 (by decide)
            have n67_4 : ¬ what = 4 := gsw_n2 e67_6 (by decide)
            have n67_5 : ¬ what = 5 := gsw_n2 e67_6 (by decide)
            refine gx_iload (q := 0) C dX5_factOfPot_210 rfl ?_
            refine gx_if_ne (tgt := 220) C dX5_factOfPot_212 (by decide) (fun c_212 => ?_) (fun c_212 => ?_)
            · skip
              refine gx_aload_n (q := 3) C dX5_factOfPot_220 rfl ?_
              refine gx_get C (i := 2) (isWS_in hW 0 (Nat.le_of_ble_eq_true rfl)) (isWS_0 hW) rfl in_X5_factOfPot_5 (by decide) fl_X5_factOfPot_30 rfl dX5_factOfPot_221 ?_
              refine gx_getN C (i := 2) (isWS_in hW 2 (Nat.le_of_ble_eq_true rfl)) (isWS_2 hW) rfl in_X5_factOfPot_3 (by decide) (by decide +kernel) rfl dX5_factOfPot_224 ?_
              refine gx_iload_n (q := 4) C dX5_factOfPot_227 rfl ?_
              refine gx_callR C (kw_X4_at l hW 4 (Nat.le_of_ble_eq_true rfl) 20 rfl _) (isWS_in hW 11 (Nat.le_of_ble_eq_true rfl)) (isWS_row hW 4 (Nat.le_of_ble_eq_true rfl)) rfl (cwV 1 C.2.2.2.2.1 gX5_factOfPot_X4_at rfl rfl rfl kdV_X4_at ⟨Nat.le_of_ble_eq_true rfl, Nat.le_of_ble_eq_true rfl⟩) rfl rfl (Nat.le_of_ble_eq_true rfl) ⟨Nat.le_of_ble_eq_true rfl, Nat.le_of_ble_eq_true rfl⟩ dX5_factOfPot_228 ?_
              exact gx_iretR C rfl hr dX5_factOfPot_231 (congrArg Value.int ((if_pos h_8).trans ((if_neg (bF h_31)).trans ((if_pos h_43).trans ((if_neg n67_0).trans ((if_neg n67_1).trans ((if_neg n67_2).trans ((if_neg n67_3).trans ((if_neg n67_4).trans ((if_neg n67_5).trans ((if_pos e67_6).trans ((if_neg c_212).trans (rfl)))))))))))).symm)
            · skip
              refine gx_bipush (v := (-6)) C dX5_factOfPot_215 (by decide) ?_
              refine gx_goto (tgt := 231) C dX5_factOfPot_217 (by decide) ?_
              exact gx_iretR C rfl hr dX5_factOfPot_231 (congrArg Value.int ((if_pos h_8).trans ((if_neg (bF h_31)).trans ((if_pos h_43).trans ((if_neg n67_0).trans ((if_neg n67_1).trans ((if_neg n67_2).trans ((if_neg n67_3).trans ((if_neg n67_4).trans ((if_neg n67_5).trans ((if_pos e67_6).trans ((if_pos c_212).trans (rfl)))))))))))).symm)
          · skip
            refine gx_tableIn (off := 165) (tgt := 232) C dX5_factOfPot_67 (by rw [sw_67]; decide) (by rw [sw_67]; decide) (by rw [sw_67]; rfl) (by decide) ?_
            have e67_7 : what = 7 := gsw_eq sw_67 (by decide)
            have n67_0 : ¬ what = 0 := gsw_n2 e67_7 (by decide)
            have n67_1 : ¬ what = 1 := gsw_n2 e67_7 (by decide)
            have n67_2 : ¬ what = 2 := gsw_n2 e67_7 (by decide)
            have n67_3 : ¬ what = 3 := gsw_n2 e67_7 (by decide)
            have n67_4 : ¬ what = 4 := gsw_n2 e67_7 (by decide)
            have n67_5 : ¬ what = 5 := gsw_n2 e67_7 (by decide)
            have n67_6 : ¬ what = 6 := gsw_n2 e67_7 (by decide)
            refine gx_iload (q := 1) C dX5_factOfPot_232 rfl ?_
            refine gx_if_eq (tgt := 251) C dX5_factOfPot_234 (by decide) (fun c_234 => ?_) (fun c_234 => ?_)
            exact absurd c_234 (by decide)
            refine gx_aload_n (q := 3) C dX5_factOfPot_237 rfl ?_
            refine gx_get C (i := 2) (isWS_in hW 0 (Nat.le_of_ble_eq_true rfl)) (isWS_0 hW) rfl in_X5_factOfPot_5 (by decide) fl_X5_factOfPot_30 rfl dX5_factOfPot_238 ?_
            refine gx_getN C (i := 6) (isWS_in hW 2 (Nat.le_of_ble_eq_true rfl)) (isWS_2 hW) rfl in_X5_factOfPot_3 (by decide) (by decide +kernel) rfl dX5_factOfPot_241 ?_
            refine gx_iload_n (q := 4) C dX5_factOfPot_244 rfl ?_
            refine gx_callR C (kw_X4_at l hW 8 (Nat.le_of_ble_eq_true rfl) 20 rfl _) (isWS_in hW 19 (Nat.le_of_ble_eq_true rfl)) (isWS_row hW 8 (Nat.le_of_ble_eq_true rfl)) rfl (cwV 1 C.2.2.2.2.1 gX5_factOfPot_X4_at rfl rfl rfl kdV_X4_at ⟨Nat.le_of_ble_eq_true rfl, Nat.le_of_ble_eq_true rfl⟩) rfl rfl (Nat.le_of_ble_eq_true rfl) ⟨Nat.le_of_ble_eq_true rfl, Nat.le_of_ble_eq_true rfl⟩ dX5_factOfPot_245 ?_
            refine gx_goto (tgt := 253) C dX5_factOfPot_248 (by decide) ?_
            exact gx_iretR C rfl hr dX5_factOfPot_253 (congrArg Value.int ((if_pos h_8).trans ((if_neg (bF h_31)).trans ((if_pos h_43).trans ((if_neg n67_0).trans ((if_neg n67_1).trans ((if_neg n67_2).trans ((if_neg n67_3).trans ((if_neg n67_4).trans ((if_neg n67_5).trans ((if_neg n67_6).trans ((if_pos e67_7).trans (rfl)))))))))))).symm)
          · skip
            refine gx_tableIn (off := 187) (tgt := 254) C dX5_factOfPot_67 (by rw [sw_67]; decide) (by rw [sw_67]; decide) (by rw [sw_67]; rfl) (by decide) ?_
            have e67_8 : what = 8 := gsw_eq sw_67 (by decide)
            have n67_0 : ¬ what = 0 := gsw_n2 e67_8 (by decide)
            have n67_1 : ¬ what = 1 := gsw_n2 e67_8 (by decide)
            have n67_2 : ¬ what = 2 := gsw_n2 e67_8 (by decide)
            have n67_3 : ¬ what = 3 := gsw_n2 e67_8 (by decide)
            have n67_4 : ¬ what = 4 := gsw_n2 e67_8 (by decide)
            have n67_5 : ¬ what = 5 := gsw_n2 e67_8 (by decide)
            have n67_6 : ¬ what = 6 := gsw_n2 e67_8 (by decide)
            have n67_7 : ¬ what = 7 := gsw_n2 e67_8 (by decide)
            refine gx_iload (q := 0) C dX5_factOfPot_254 rfl ?_
            exact gx_iretR C rfl hr dX5_factOfPot_256 (congrArg Value.int ((if_pos h_8).trans ((if_neg (bF h_31)).trans ((if_pos h_43).trans ((if_neg n67_0).trans ((if_neg n67_1).trans ((if_neg n67_2).trans ((if_neg n67_3).trans ((if_neg n67_4).trans ((if_neg n67_5).trans ((if_neg n67_6).trans ((if_neg n67_7).trans ((if_pos e67_8).trans (rfl))))))))))))).symm)
  · skip
    have h_8 := bI0.mp c_8
    refine gx_iconst (v := (-1)) C dX5_factOfPot_11 (by decide) ?_
    exact gx_iretR C rfl hr dX5_factOfPot_12 (congrArg Value.int ((if_neg (bF h_8)).trans (rfl)).symm)
theorem kdN_X5_factOfPupil : yX5_factOfPupil.cls ≠ "java/lang/invoke/MethodHandle" ∧ yX5_factOfPupil.cls ≠ "java/lang/invoke/VarHandle" ∧ (parseMethodDescriptor yX5_factOfPupil.desc).map (fun d => d.parameters.length) = some 2 := by decide +kernel
theorem kdV_X5_factOfPupil : yX5_factOfPupil.cls = RX5 ∧ yX5_factOfPupil.cls ≠ "java/lang/invoke/MethodHandle" ∧ yX5_factOfPupil.cls ≠ "java/lang/invoke/VarHandle" ∧ (parseMethodDescriptor yX5_factOfPupil.desc).map (fun d => d.parameters.length) = some 2 := ⟨rfl, kdN_X5_factOfPupil⟩
def vX5_factOfPupil (w : WS) (q : Int32) (what : Int32) : Int32 := (if (vX5_hasPupil w q) = true then (if what = 0 then (cWheel w q 0) else (if what = 1 then (cThrownBy w q) else (if what = 2 then ((cThrownBy w q) &&& (cOfKind w 3)) else (if what = 3 then ((cThrownBy w q) &&& (cOfKind w 4)) else (if what = 4 then (rAt 10 (w.1 11) q) else (if what = 5 then (cBookings w q) else (-2))))))) else (-1))
theorem in_X5_factOfPupil_5 : ∀ w ∈ u_ws RX5 TX5 8, w ∈ wsX5_factOfPupil := by decide +kernel
theorem fl_X5_factOfPupil_23 : Cond.fieldLink RX5 23 (TX5 1).1 (TX5 1).2.1 (TX5 1).2.2.1 ∈ wsX5_factOfPupil := by decide +kernel
theorem fl_X5_factOfPupil_30 : Cond.fieldLink RX5 30 (TX5 2).1 (TX5 2).2.1 (TX5 2).2.2.1 ∈ wsX5_factOfPupil := by decide +kernel
theorem fl_X5_factOfPupil_37 : Cond.fieldLink RX5 37 (TX5 4).1 (TX5 4).2.1 (TX5 4).2.2.1 ∈ wsX5_factOfPupil := by decide +kernel
abbrev rmX5_factOfPupil : Room := { frames := 4, cells := 0, slots := 0, locals := 91 }
set_option maxHeartbeats 4000000 in
set_option maxRecDepth 100000 in
theorem k_X5_factOfPupil (l : Launch) {k : gK} {L : List Nat} {f : Nat → va_E} {a : Nat → Nat} {w : WS} (hW : isWS k L f a w) (hN : wOK w) (q : Int32) (what : Int32) : kR l k L f yX5_factOfPupil wsX5_factOfPupil rmX5_factOfPupil [.ref (a 0), .int q, .int what] (.int (vX5_factOfPupil w q what)) := by
  refine kR_of (cc := cX5_factOfPupil) (maxL := 3) (ret := (some .int)) (by decide) rfl (Nat.le_of_ble_eq_true rfl) ?_
  intro p e s m args below meth c C hr
  refine gx_lv [(0, _), (1, _), (2, _)] [0, 1, 2] rfl ?_
  refine gx_aload_n (q := 0) C dX5_factOfPupil_0 rfl ?_
  refine gx_iload_n (q := 1) C dX5_factOfPupil_1 rfl ?_
  refine gx_callR C (k_X5_hasPupil l hW _) (isWS_in hW 0 (Nat.le_of_ble_eq_true rfl)) (isWS_0 hW) rfl (cwV 1 C.2.2.2.2.1 gX5_factOfPupil_X5_hasPupil rfl rfl rfl kdV_X5_hasPupil ⟨Nat.le_of_ble_eq_true rfl, Nat.le_of_ble_eq_true rfl⟩) rfl rfl (Nat.le_of_ble_eq_true rfl) ⟨Nat.le_of_ble_eq_true rfl, Nat.le_of_ble_eq_true rfl⟩ dX5_factOfPupil_2 ?_
  refine gx_if_ne (tgt := 10) C dX5_factOfPupil_5 (by decide) (fun c_5 => ?_) (fun c_5 => ?_)
  · skip
    have h_5 := bI1.mp c_5
    refine gx_iload_n (q := 2) C dX5_factOfPupil_10 rfl ?_
    refine gsw_split 0 5 what ?_ ?_
    · intro sw_11
      refine gx_tableOut (tgt := 121) C dX5_factOfPupil_11 sw_11 (by decide) ?_
      have n11_0 : ¬ what = 0 := gsw_ne sw_11 (by decide)
      have n11_1 : ¬ what = 1 := gsw_ne sw_11 (by decide)
      have n11_2 : ¬ what = 2 := gsw_ne sw_11 (by decide)
      have n11_3 : ¬ what = 3 := gsw_ne sw_11 (by decide)
      have n11_4 : ¬ what = 4 := gsw_ne sw_11 (by decide)
      have n11_5 : ¬ what = 5 := gsw_ne sw_11 (by decide)
      refine gx_bipush (v := (-2)) C dX5_factOfPupil_121 (by decide) ?_
      exact gx_iretR C rfl hr dX5_factOfPupil_123 (congrArg Value.int ((if_pos h_5).trans ((if_neg n11_0).trans ((if_neg n11_1).trans ((if_neg n11_2).trans ((if_neg n11_3).trans ((if_neg n11_4).trans ((if_neg n11_5).trans (rfl)))))))).symm)
    · intro j hj1 hj2 sw_11
      obtain rfl | rfl | rfl | rfl | rfl | rfl : j = 0 ∨ j = 1 ∨ j = 2 ∨ j = 3 ∨ j = 4 ∨ j = 5 := by omega
      · skip
        refine gx_tableIn (off := 37) (tgt := 48) C dX5_factOfPupil_11 (by rw [sw_11]; decide) (by rw [sw_11]; decide) (by rw [sw_11]; rfl) (by decide) ?_
        have e11_0 : what = 0 := gsw_eq sw_11 (by decide)
        refine gx_aload_n (q := 0) C dX5_factOfPupil_48 rfl ?_
        refine gx_get C (i := 1) (isWS_in hW 0 (Nat.le_of_ble_eq_true rfl)) (isWS_0 hW) rfl in_X5_factOfPupil_5 (by decide) fl_X5_factOfPupil_23 rfl dX5_factOfPupil_49 ?_
        refine gx_iload_n (q := 1) C dX5_factOfPupil_52 rfl ?_
        refine gx_iconst (v := 0) C dX5_factOfPupil_53 (by decide) ?_
        refine gx_callR C (k_X0_wheelOf l hW _ _) (isWS_in hW 1 (Nat.le_of_ble_eq_true rfl)) (isWS_1 hW) rfl (cwV 2 C.2.2.2.2.1 gX5_factOfPupil_X0_wheelOf rfl rfl rfl kdV_X0_wheelOf ⟨Nat.le_of_ble_eq_true rfl, Nat.le_of_ble_eq_true rfl⟩) rfl rfl (Nat.le_of_ble_eq_true rfl) ⟨Nat.le_of_ble_eq_true rfl, Nat.le_of_ble_eq_true rfl⟩ dX5_factOfPupil_54 ?_
        exact gx_iretR C rfl hr dX5_factOfPupil_57 (congrArg Value.int ((if_pos h_5).trans ((if_pos e11_0).trans (rfl))).symm)
      · skip
        refine gx_tableIn (off := 47) (tgt := 58) C dX5_factOfPupil_11 (by rw [sw_11]; decide) (by rw [sw_11]; decide) (by rw [sw_11]; rfl) (by decide) ?_
        have e11_1 : what = 1 := gsw_eq sw_11 (by decide)
        have n11_0 : ¬ what = 0 := gsw_n2 e11_1 (by decide)
        refine gx_aload_n (q := 0) C dX5_factOfPupil_58 rfl ?_
        refine gx_get C (i := 2) (isWS_in hW 0 (Nat.le_of_ble_eq_true rfl)) (isWS_0 hW) rfl in_X5_factOfPupil_5 (by decide) fl_X5_factOfPupil_30 rfl dX5_factOfPupil_59 ?_
        refine gx_iload_n (q := 1) C dX5_factOfPupil_62 rfl ?_
        refine gx_callR C (k_X3_thrownBy l hW hN _) (isWS_in hW 2 (Nat.le_of_ble_eq_true rfl)) (isWS_2 hW) rfl (cwV 1 C.2.2.2.2.1 gX5_factOfPupil_X3_thrownBy rfl rfl rfl kdV_X3_thrownBy ⟨Nat.le_of_ble_eq_true rfl, Nat.le_of_ble_eq_true rfl⟩) rfl rfl (Nat.le_of_ble_eq_true rfl) ⟨Nat.le_of_ble_eq_true rfl, Nat.le_of_ble_eq_true rfl⟩ dX5_factOfPupil_63 ?_
        exact gx_iretR C rfl hr dX5_factOfPupil_66 (congrArg Value.int ((if_pos h_5).trans ((if_neg n11_0).trans ((if_pos e11_1).trans (rfl)))).symm)
      · skip
        refine gx_tableIn (off := 56) (tgt := 67) C dX5_factOfPupil_11 (by rw [sw_11]; decide) (by rw [sw_11]; decide) (by rw [sw_11]; rfl) (by decide) ?_
        have e11_2 : what = 2 := gsw_eq sw_11 (by decide)
        have n11_0 : ¬ what = 0 := gsw_n2 e11_2 (by decide)
        have n11_1 : ¬ what = 1 := gsw_n2 e11_2 (by decide)
        refine gx_aload_n (q := 0) C dX5_factOfPupil_67 rfl ?_
        refine gx_get C (i := 2) (isWS_in hW 0 (Nat.le_of_ble_eq_true rfl)) (isWS_0 hW) rfl in_X5_factOfPupil_5 (by decide) fl_X5_factOfPupil_30 rfl dX5_factOfPupil_68 ?_
        refine gx_iload_n (q := 1) C dX5_factOfPupil_71 rfl ?_
        refine gx_callR C (k_X3_thrownBy l hW hN _) (isWS_in hW 2 (Nat.le_of_ble_eq_true rfl)) (isWS_2 hW) rfl (cwV 1 C.2.2.2.2.1 gX5_factOfPupil_X3_thrownBy rfl rfl rfl kdV_X3_thrownBy ⟨Nat.le_of_ble_eq_true rfl, Nat.le_of_ble_eq_true rfl⟩) rfl rfl (Nat.le_of_ble_eq_true rfl) ⟨Nat.le_of_ble_eq_true rfl, Nat.le_of_ble_eq_true rfl⟩ dX5_factOfPupil_72 ?_
        refine gx_aload_n (q := 0) C dX5_factOfPupil_75 rfl ?_
        refine gx_get C (i := 2) (isWS_in hW 0 (Nat.le_of_ble_eq_true rfl)) (isWS_0 hW) rfl in_X5_factOfPupil_5 (by decide) fl_X5_factOfPupil_30 rfl dX5_factOfPupil_76 ?_
        refine gx_iconst (v := 3) C dX5_factOfPupil_79 (by decide) ?_
        refine gx_callR C (k_X3_ofKind l hW hN _) (isWS_in hW 2 (Nat.le_of_ble_eq_true rfl)) (isWS_2 hW) rfl (cwV 1 C.2.2.2.2.1 gX5_factOfPupil_X3_ofKind rfl rfl rfl kdV_X3_ofKind ⟨Nat.le_of_ble_eq_true rfl, Nat.le_of_ble_eq_true rfl⟩) rfl rfl (Nat.le_of_ble_eq_true rfl) ⟨Nat.le_of_ble_eq_true rfl, Nat.le_of_ble_eq_true rfl⟩ dX5_factOfPupil_80 ?_
        refine gx_iand C dX5_factOfPupil_83 ?_
        exact gx_iretR C rfl hr dX5_factOfPupil_84 (congrArg Value.int ((if_pos h_5).trans ((if_neg n11_0).trans ((if_neg n11_1).trans ((if_pos e11_2).trans (rfl))))).symm)
      · skip
        refine gx_tableIn (off := 74) (tgt := 85) C dX5_factOfPupil_11 (by rw [sw_11]; decide) (by rw [sw_11]; decide) (by rw [sw_11]; rfl) (by decide) ?_
        have e11_3 : what = 3 := gsw_eq sw_11 (by decide)
        have n11_0 : ¬ what = 0 := gsw_n2 e11_3 (by decide)
        have n11_1 : ¬ what = 1 := gsw_n2 e11_3 (by decide)
        have n11_2 : ¬ what = 2 := gsw_n2 e11_3 (by decide)
        refine gx_aload_n (q := 0) C dX5_factOfPupil_85 rfl ?_
        refine gx_get C (i := 2) (isWS_in hW 0 (Nat.le_of_ble_eq_true rfl)) (isWS_0 hW) rfl in_X5_factOfPupil_5 (by decide) fl_X5_factOfPupil_30 rfl dX5_factOfPupil_86 ?_
        refine gx_iload_n (q := 1) C dX5_factOfPupil_89 rfl ?_
        refine gx_callR C (k_X3_thrownBy l hW hN _) (isWS_in hW 2 (Nat.le_of_ble_eq_true rfl)) (isWS_2 hW) rfl (cwV 1 C.2.2.2.2.1 gX5_factOfPupil_X3_thrownBy rfl rfl rfl kdV_X3_thrownBy ⟨Nat.le_of_ble_eq_true rfl, Nat.le_of_ble_eq_true rfl⟩) rfl rfl (Nat.le_of_ble_eq_true rfl) ⟨Nat.le_of_ble_eq_true rfl, Nat.le_of_ble_eq_true rfl⟩ dX5_factOfPupil_90 ?_
        refine gx_aload_n (q := 0) C dX5_factOfPupil_93 rfl ?_
        refine gx_get C (i := 2) (isWS_in hW 0 (Nat.le_of_ble_eq_true rfl)) (isWS_0 hW) rfl in_X5_factOfPupil_5 (by decide) fl_X5_factOfPupil_30 rfl dX5_factOfPupil_94 ?_
        refine gx_iconst (v := 4) C dX5_factOfPupil_97 (by decide) ?_
        refine gx_callR C (k_X3_ofKind l hW hN _) (isWS_in hW 2 (Nat.le_of_ble_eq_true rfl)) (isWS_2 hW) rfl (cwV 1 C.2.2.2.2.1 gX5_factOfPupil_X3_ofKind rfl rfl rfl kdV_X3_ofKind ⟨Nat.le_of_ble_eq_true rfl, Nat.le_of_ble_eq_true rfl⟩) rfl rfl (Nat.le_of_ble_eq_true rfl) ⟨Nat.le_of_ble_eq_true rfl, Nat.le_of_ble_eq_true rfl⟩ dX5_factOfPupil_98 ?_
        refine gx_iand C dX5_factOfPupil_101 ?_
        exact gx_iretR C rfl hr dX5_factOfPupil_102 (congrArg Value.int ((if_pos h_5).trans ((if_neg n11_0).trans ((if_neg n11_1).trans ((if_neg n11_2).trans ((if_pos e11_3).trans (rfl)))))).symm)
      · skip
        refine gx_tableIn (off := 92) (tgt := 103) C dX5_factOfPupil_11 (by rw [sw_11]; decide) (by rw [sw_11]; decide) (by rw [sw_11]; rfl) (by decide) ?_
        have e11_4 : what = 4 := gsw_eq sw_11 (by decide)
        have n11_0 : ¬ what = 0 := gsw_n2 e11_4 (by decide)
        have n11_1 : ¬ what = 1 := gsw_n2 e11_4 (by decide)
        have n11_2 : ¬ what = 2 := gsw_n2 e11_4 (by decide)
        have n11_3 : ¬ what = 3 := gsw_n2 e11_4 (by decide)
        refine gx_aload_n (q := 0) C dX5_factOfPupil_103 rfl ?_
        refine gx_get C (i := 4) (isWS_in hW 0 (Nat.le_of_ble_eq_true rfl)) (isWS_0 hW) rfl in_X5_factOfPupil_5 (by decide) fl_X5_factOfPupil_37 rfl dX5_factOfPupil_104 ?_
        refine gx_iload_n (q := 1) C dX5_factOfPupil_107 rfl ?_
        refine gx_callR C (kw_X4_at l hW 11 (Nat.le_of_ble_eq_true rfl) 10 rfl _) (isWS_in hW 25 (Nat.le_of_ble_eq_true rfl)) (isWS_row hW 11 (Nat.le_of_ble_eq_true rfl)) rfl (cwV 1 C.2.2.2.2.1 gX5_factOfPupil_X4_at rfl rfl rfl kdV_X4_at ⟨Nat.le_of_ble_eq_true rfl, Nat.le_of_ble_eq_true rfl⟩) rfl rfl (Nat.le_of_ble_eq_true rfl) ⟨Nat.le_of_ble_eq_true rfl, Nat.le_of_ble_eq_true rfl⟩ dX5_factOfPupil_108 ?_
        exact gx_iretR C rfl hr dX5_factOfPupil_111 (congrArg Value.int ((if_pos h_5).trans ((if_neg n11_0).trans ((if_neg n11_1).trans ((if_neg n11_2).trans ((if_neg n11_3).trans ((if_pos e11_4).trans (rfl))))))).symm)
      · skip
        refine gx_tableIn (off := 101) (tgt := 112) C dX5_factOfPupil_11 (by rw [sw_11]; decide) (by rw [sw_11]; decide) (by rw [sw_11]; rfl) (by decide) ?_
        have e11_5 : what = 5 := gsw_eq sw_11 (by decide)
        have n11_0 : ¬ what = 0 := gsw_n2 e11_5 (by decide)
        have n11_1 : ¬ what = 1 := gsw_n2 e11_5 (by decide)
        have n11_2 : ¬ what = 2 := gsw_n2 e11_5 (by decide)
        have n11_3 : ¬ what = 3 := gsw_n2 e11_5 (by decide)
        have n11_4 : ¬ what = 4 := gsw_n2 e11_5 (by decide)
        refine gx_aload_n (q := 0) C dX5_factOfPupil_112 rfl ?_
        refine gx_get C (i := 1) (isWS_in hW 0 (Nat.le_of_ble_eq_true rfl)) (isWS_0 hW) rfl in_X5_factOfPupil_5 (by decide) fl_X5_factOfPupil_23 rfl dX5_factOfPupil_113 ?_
        refine gx_iload_n (q := 1) C dX5_factOfPupil_116 rfl ?_
        refine gx_callR C (k_X0_bookingsOf l hW _) (isWS_in hW 1 (Nat.le_of_ble_eq_true rfl)) (isWS_1 hW) rfl (cwV 1 C.2.2.2.2.1 gX5_factOfPupil_X0_bookingsOf rfl rfl rfl kdV_X0_bookingsOf ⟨Nat.le_of_ble_eq_true rfl, Nat.le_of_ble_eq_true rfl⟩) rfl rfl (Nat.le_of_ble_eq_true rfl) ⟨Nat.le_of_ble_eq_true rfl, Nat.le_of_ble_eq_true rfl⟩ dX5_factOfPupil_117 ?_
        exact gx_iretR C rfl hr dX5_factOfPupil_120 (congrArg Value.int ((if_pos h_5).trans ((if_neg n11_0).trans ((if_neg n11_1).trans ((if_neg n11_2).trans ((if_neg n11_3).trans ((if_neg n11_4).trans ((if_pos e11_5).trans (rfl)))))))).symm)
  · skip
    have h_5 := bI0.mp c_5
    refine gx_iconst (v := (-1)) C dX5_factOfPupil_8 (by decide) ?_
    exact gx_iretR C rfl hr dX5_factOfPupil_9 (congrArg Value.int ((if_neg (bF h_5)).trans (rfl)).symm)
theorem kdN_X5_figure : yX5_figure.cls ≠ "java/lang/invoke/MethodHandle" ∧ yX5_figure.cls ≠ "java/lang/invoke/VarHandle" ∧ (parseMethodDescriptor yX5_figure.desc).map (fun d => d.parameters.length) = some 1 := by decide +kernel
theorem kdV_X5_figure : yX5_figure.cls = RX5 ∧ yX5_figure.cls ≠ "java/lang/invoke/MethodHandle" ∧ yX5_figure.cls ≠ "java/lang/invoke/VarHandle" ∧ (parseMethodDescriptor yX5_figure.desc).map (fun d => d.parameters.length) = some 1 := ⟨rfl, kdN_X5_figure⟩
def vX5_figure (w : WS) (what : Int32) : Int32 := (if (isW what 11 14) = true then (rAt 4 (w.1 10) (what - 11)) else (if (isW what 15 18) = true then (rAt 4 (w.1 0) (what - 15)) else (if what = 0 then (w.2 0) else (if what = 1 then (w.2 3) else (if what = 2 then (w.2 2) else (if what = 3 then (cOnRacks w) else (if what = 4 then (cInKiln w) else (if what = 5 then (cSizes w) else (if what = 6 then (cFree w) else (if what = 7 then (cLoadable w) else (if what = 8 then (w.2 5) else (if what = 9 then (bitC (cOfKind w 4)) else (if what = 10 then (suI (w.1 11) 10) else (-2))))))))))))))
theorem wd_X5_figure_ini_RX6 : Cond.initialized RX6 ∈ wsX5_figure := by decide +kernel
theorem wd_X5_figure_st_X6_isWithin : Cond.static yX6_isWithin ∈ wsX5_figure := by decide +kernel
theorem in_X5_figure_5 : ∀ w ∈ u_ws RX5 TX5 8, w ∈ wsX5_figure := by decide +kernel
theorem fl_X5_figure_23 : Cond.fieldLink RX5 23 (TX5 1).1 (TX5 1).2.1 (TX5 1).2.2.1 ∈ wsX5_figure := by decide +kernel
theorem in_X5_figure_0 : ∀ w ∈ u_ws RX0 TX0 3, w ∈ wsX5_figure := by decide +kernel
theorem fl_X5_figure_58 : Cond.fieldLink RX5 58 (TX5 5).1 (TX5 5).2.1 (TX5 5).2.2.1 ∈ wsX5_figure := by decide +kernel
theorem fl_X5_figure_30 : Cond.fieldLink RX5 30 (TX5 2).1 (TX5 2).2.1 (TX5 2).2.2.1 ∈ wsX5_figure := by decide +kernel
theorem in_X5_figure_3 : ∀ w ∈ u_ws RX3 TX3 9, w ∈ wsX5_figure := by decide +kernel
theorem fl_X5_figure_61 : Cond.fieldLink RX5 61 (TX5 7).1 (TX5 7).2.1 (TX5 7).2.2.1 ∈ wsX5_figure := by decide +kernel
theorem fl_X5_figure_37 : Cond.fieldLink RX5 37 (TX5 4).1 (TX5 4).2.1 (TX5 4).2.2.1 ∈ wsX5_figure := by decide +kernel
theorem fl_X5_figure_14 : Cond.fieldLink RX5 14 (TX5 0).1 (TX5 0).2.1 (TX5 0).2.2.1 ∈ wsX5_figure := by decide +kernel
theorem fl_X5_figure_34 : Cond.fieldLink RX5 34 (TX5 3).1 (TX5 3).2.1 (TX5 3).2.2.1 ∈ wsX5_figure := by decide +kernel
abbrev rmX5_figure : Room := { frames := 5, cells := 0, slots := 0, locals := 110 }
set_option maxHeartbeats 4000000 in
set_option maxRecDepth 100000 in
theorem k_X5_figure (l : Launch) {k : gK} {L : List Nat} {f : Nat → va_E} {a : Nat → Nat} {w : WS} (hW : isWS k L f a w) (hN : wOK w) (what : Int32) : kR l k L f yX5_figure wsX5_figure rmX5_figure [.ref (a 0), .int what] (.int (vX5_figure w what)) := by
  refine kR_of (cc := cX5_figure) (maxL := 2) (ret := (some .int)) (by decide) rfl (Nat.le_of_ble_eq_true rfl) ?_
  intro p e s m args below meth c C hr
  refine gx_lv [(0, _), (1, _)] [0, 1] rfl ?_
  refine gx_iload_n (q := 1) C dX5_figure_0 rfl ?_
  refine gx_bipush (v := 11) C dX5_figure_1 (by decide) ?_
  refine gx_bipush (v := 14) C dX5_figure_3 (by decide) ?_
  refine gx_callRN C (k_X6_isWithin l (k := k) (L := L) _ _ _) ⟨va_cnB 3 C.2.2.2.2.1 gX5_figure_X6_isWithin_n67 rfl rfl rfl (C.2.2.2.2.2.1.2.2 (RX5, 67, yX6_isWithin) (by decide +kernel)) (C.2.2.2.2.1 _ wd_X5_figure_ini_RX6) kdN_X6_isWithin ⟨Nat.le_of_ble_eq_true rfl, Nat.le_of_ble_eq_true rfl⟩, C.2.2.2.2.1 _ wd_X5_figure_st_X6_isWithin, trivial⟩ rfl rfl (Nat.le_of_ble_eq_true rfl) ⟨Nat.le_of_ble_eq_true rfl, Nat.le_of_ble_eq_true rfl⟩ dX5_figure_5 ?_
  refine gx_if_eq (tgt := 23) C dX5_figure_8 (by decide) (fun c_8 => ?_) (fun c_8 => ?_)
  · skip
    have h_8 := bI0.mp c_8
    refine gx_iload_n (q := 1) C dX5_figure_23 rfl ?_
    refine gx_bipush (v := 15) C dX5_figure_24 (by decide) ?_
    refine gx_bipush (v := 18) C dX5_figure_26 (by decide) ?_
    refine gx_callRN C (k_X6_isWithin l (k := k) (L := L) _ _ _) ⟨va_cnB 3 C.2.2.2.2.1 gX5_figure_X6_isWithin_n67 rfl rfl rfl (C.2.2.2.2.2.1.2.2 (RX5, 67, yX6_isWithin) (by decide +kernel)) (C.2.2.2.2.1 _ wd_X5_figure_ini_RX6) kdN_X6_isWithin ⟨Nat.le_of_ble_eq_true rfl, Nat.le_of_ble_eq_true rfl⟩, C.2.2.2.2.1 _ wd_X5_figure_st_X6_isWithin, trivial⟩ rfl rfl (Nat.le_of_ble_eq_true rfl) ⟨Nat.le_of_ble_eq_true rfl, Nat.le_of_ble_eq_true rfl⟩ dX5_figure_28 ?_
    refine gx_if_eq (tgt := 46) C dX5_figure_31 (by decide) (fun c_31 => ?_) (fun c_31 => ?_)
    · skip
      have h_31 := bI0.mp c_31
      refine gx_iload_n (q := 1) C dX5_figure_46 rfl ?_
      refine gsw_split 0 10 what ?_ ?_
      · intro sw_47
        refine gx_tableOut (tgt := 187) C dX5_figure_47 sw_47 (by decide) ?_
        have n47_0 : ¬ what = 0 := gsw_ne sw_47 (by decide)
        have n47_1 : ¬ what = 1 := gsw_ne sw_47 (by decide)
        have n47_2 : ¬ what = 2 := gsw_ne sw_47 (by decide)
        have n47_3 : ¬ what = 3 := gsw_ne sw_47 (by decide)
        have n47_4 : ¬ what = 4 := gsw_ne sw_47 (by decide)
        have n47_5 : ¬ what = 5 := gsw_ne sw_47 (by decide)
        have n47_6 : ¬ what = 6 := gsw_ne sw_47 (by decide)
        have n47_7 : ¬ what = 7 := gsw_ne sw_47 (by decide)
        have n47_8 : ¬ what = 8 := gsw_ne sw_47 (by decide)
        have n47_9 : ¬ what = 9 := gsw_ne sw_47 (by decide)
        have n47_10 : ¬ what = 10 := gsw_ne sw_47 (by decide)
        refine gx_bipush (v := (-2)) C dX5_figure_187 (by decide) ?_
        exact gx_iretR C rfl hr dX5_figure_189 (congrArg Value.int ((if_neg (bF h_8)).trans ((if_neg (bF h_31)).trans ((if_neg n47_0).trans ((if_neg n47_1).trans ((if_neg n47_2).trans ((if_neg n47_3).trans ((if_neg n47_4).trans ((if_neg n47_5).trans ((if_neg n47_6).trans ((if_neg n47_7).trans ((if_neg n47_8).trans ((if_neg n47_9).trans ((if_neg n47_10).trans (rfl)))))))))))))).symm)
      · intro j hj1 hj2 sw_47
        obtain rfl | rfl | rfl | rfl | rfl | rfl | rfl | rfl | rfl | rfl | rfl : j = 0 ∨ j = 1 ∨ j = 2 ∨ j = 3 ∨ j = 4 ∨ j = 5 ∨ j = 6 ∨ j = 7 ∨ j = 8 ∨ j = 9 ∨ j = 10 := by omega
        · skip
          refine gx_tableIn (off := 57) (tgt := 104) C dX5_figure_47 (by rw [sw_47]; decide) (by rw [sw_47]; decide) (by rw [sw_47]; rfl) (by decide) ?_
          have e47_0 : what = 0 := gsw_eq sw_47 (by decide)
          refine gx_aload_n (q := 0) C dX5_figure_104 rfl ?_
          refine gx_get C (i := 1) (isWS_in hW 0 (Nat.le_of_ble_eq_true rfl)) (isWS_0 hW) rfl in_X5_figure_5 (by decide) fl_X5_figure_23 rfl dX5_figure_105 ?_
          refine gx_getN C (i := 1) (isWS_in hW 1 (Nat.le_of_ble_eq_true rfl)) (isWS_1 hW) rfl in_X5_figure_0 (by decide) (by decide +kernel) rfl dX5_figure_108 ?_
          exact gx_iretR C rfl hr dX5_figure_111 (congrArg Value.int ((if_neg (bF h_8)).trans ((if_neg (bF h_31)).trans ((if_pos e47_0).trans (rfl)))).symm)
        · skip
          refine gx_tableIn (off := 65) (tgt := 112) C dX5_figure_47 (by rw [sw_47]; decide) (by rw [sw_47]; decide) (by rw [sw_47]; rfl) (by decide) ?_
          have e47_1 : what = 1 := gsw_eq sw_47 (by decide)
          have n47_0 : ¬ what = 0 := gsw_n2 e47_1 (by decide)
          refine gx_aload_n (q := 0) C dX5_figure_112 rfl ?_
          refine gx_get C (i := 5) (isWS_in hW 0 (Nat.le_of_ble_eq_true rfl)) (isWS_0 hW) rfl in_X5_figure_5 (by decide) fl_X5_figure_58 rfl dX5_figure_113 ?_
          exact gx_iretR C rfl hr dX5_figure_116 (congrArg Value.int ((if_neg (bF h_8)).trans ((if_neg (bF h_31)).trans ((if_neg n47_0).trans ((if_pos e47_1).trans (rfl))))).symm)
        · skip
          refine gx_tableIn (off := 70) (tgt := 117) C dX5_figure_47 (by rw [sw_47]; decide) (by rw [sw_47]; decide) (by rw [sw_47]; rfl) (by decide) ?_
          have e47_2 : what = 2 := gsw_eq sw_47 (by decide)
          have n47_0 : ¬ what = 0 := gsw_n2 e47_2 (by decide)
          have n47_1 : ¬ what = 1 := gsw_n2 e47_2 (by decide)
          refine gx_aload_n (q := 0) C dX5_figure_117 rfl ?_
          refine gx_get C (i := 2) (isWS_in hW 0 (Nat.le_of_ble_eq_true rfl)) (isWS_0 hW) rfl in_X5_figure_5 (by decide) fl_X5_figure_30 rfl dX5_figure_118 ?_
          refine gx_getN C (i := 8) (isWS_in hW 2 (Nat.le_of_ble_eq_true rfl)) (isWS_2 hW) rfl in_X5_figure_3 (by decide) (by decide +kernel) rfl dX5_figure_121 ?_
          exact gx_iretR C rfl hr dX5_figure_124 (congrArg Value.int ((if_neg (bF h_8)).trans ((if_neg (bF h_31)).trans ((if_neg n47_0).trans ((if_neg n47_1).trans ((if_pos e47_2).trans (rfl)))))).symm)
        · skip
          refine gx_tableIn (off := 78) (tgt := 125) C dX5_figure_47 (by rw [sw_47]; decide) (by rw [sw_47]; decide) (by rw [sw_47]; rfl) (by decide) ?_
          have e47_3 : what = 3 := gsw_eq sw_47 (by decide)
          have n47_0 : ¬ what = 0 := gsw_n2 e47_3 (by decide)
          have n47_1 : ¬ what = 1 := gsw_n2 e47_3 (by decide)
          have n47_2 : ¬ what = 2 := gsw_n2 e47_3 (by decide)
          refine gx_aload_n (q := 0) C dX5_figure_125 rfl ?_
          refine gx_get C (i := 2) (isWS_in hW 0 (Nat.le_of_ble_eq_true rfl)) (isWS_0 hW) rfl in_X5_figure_5 (by decide) fl_X5_figure_30 rfl dX5_figure_126 ?_
          refine gx_callR C (k_X3_onRacks l hW hN ) (isWS_in hW 2 (Nat.le_of_ble_eq_true rfl)) (isWS_2 hW) rfl (cwV 0 C.2.2.2.2.1 gX5_figure_X3_onRacks rfl rfl rfl kdV_X3_onRacks ⟨Nat.le_of_ble_eq_true rfl, Nat.le_of_ble_eq_true rfl⟩) rfl rfl (Nat.le_of_ble_eq_true rfl) ⟨Nat.le_of_ble_eq_true rfl, Nat.le_of_ble_eq_true rfl⟩ dX5_figure_129 ?_
          exact gx_iretR C rfl hr dX5_figure_132 (congrArg Value.int ((if_neg (bF h_8)).trans ((if_neg (bF h_31)).trans ((if_neg n47_0).trans ((if_neg n47_1).trans ((if_neg n47_2).trans ((if_pos e47_3).trans (rfl))))))).symm)
        · skip
          refine gx_tableIn (off := 86) (tgt := 133) C dX5_figure_47 (by rw [sw_47]; decide) (by rw [sw_47]; decide) (by rw [sw_47]; rfl) (by decide) ?_
          have e47_4 : what = 4 := gsw_eq sw_47 (by decide)
          have n47_0 : ¬ what = 0 := gsw_n2 e47_4 (by decide)
          have n47_1 : ¬ what = 1 := gsw_n2 e47_4 (by decide)
          have n47_2 : ¬ what = 2 := gsw_n2 e47_4 (by decide)
          have n47_3 : ¬ what = 3 := gsw_n2 e47_4 (by decide)
          refine gx_aload_n (q := 0) C dX5_figure_133 rfl ?_
          refine gx_get C (i := 2) (isWS_in hW 0 (Nat.le_of_ble_eq_true rfl)) (isWS_0 hW) rfl in_X5_figure_5 (by decide) fl_X5_figure_30 rfl dX5_figure_134 ?_
          refine gx_callR C (k_X3_inKiln l hW hN ) (isWS_in hW 2 (Nat.le_of_ble_eq_true rfl)) (isWS_2 hW) rfl (cwV 0 C.2.2.2.2.1 gX5_figure_X3_inKiln rfl rfl rfl kdV_X3_inKiln ⟨Nat.le_of_ble_eq_true rfl, Nat.le_of_ble_eq_true rfl⟩) rfl rfl (Nat.le_of_ble_eq_true rfl) ⟨Nat.le_of_ble_eq_true rfl, Nat.le_of_ble_eq_true rfl⟩ dX5_figure_137 ?_
          exact gx_iretR C rfl hr dX5_figure_140 (congrArg Value.int ((if_neg (bF h_8)).trans ((if_neg (bF h_31)).trans ((if_neg n47_0).trans ((if_neg n47_1).trans ((if_neg n47_2).trans ((if_neg n47_3).trans ((if_pos e47_4).trans (rfl)))))))).symm)
        · skip
          refine gx_tableIn (off := 94) (tgt := 141) C dX5_figure_47 (by rw [sw_47]; decide) (by rw [sw_47]; decide) (by rw [sw_47]; rfl) (by decide) ?_
          have e47_5 : what = 5 := gsw_eq sw_47 (by decide)
          have n47_0 : ¬ what = 0 := gsw_n2 e47_5 (by decide)
          have n47_1 : ¬ what = 1 := gsw_n2 e47_5 (by decide)
          have n47_2 : ¬ what = 2 := gsw_n2 e47_5 (by decide)
          have n47_3 : ¬ what = 3 := gsw_n2 e47_5 (by decide)
          have n47_4 : ¬ what = 4 := gsw_n2 e47_5 (by decide)
          refine gx_aload_n (q := 0) C dX5_figure_141 rfl ?_
          refine gx_get C (i := 2) (isWS_in hW 0 (Nat.le_of_ble_eq_true rfl)) (isWS_0 hW) rfl in_X5_figure_5 (by decide) fl_X5_figure_30 rfl dX5_figure_142 ?_
          refine gx_callR C (k_X3_sizesInKiln l hW hN ) (isWS_in hW 2 (Nat.le_of_ble_eq_true rfl)) (isWS_2 hW) rfl (cwV 0 C.2.2.2.2.1 gX5_figure_X3_sizesInKiln rfl rfl rfl kdV_X3_sizesInKiln ⟨Nat.le_of_ble_eq_true rfl, Nat.le_of_ble_eq_true rfl⟩) rfl rfl (Nat.le_of_ble_eq_true rfl) ⟨Nat.le_of_ble_eq_true rfl, Nat.le_of_ble_eq_true rfl⟩ dX5_figure_145 ?_
          exact gx_iretR C rfl hr dX5_figure_148 (congrArg Value.int ((if_neg (bF h_8)).trans ((if_neg (bF h_31)).trans ((if_neg n47_0).trans ((if_neg n47_1).trans ((if_neg n47_2).trans ((if_neg n47_3).trans ((if_neg n47_4).trans ((if_pos e47_5).trans (rfl))))))))).symm)
        · skip
          refine gx_tableIn (off := 102) (tgt := 149) C dX5_figure_47 (by rw [sw_47]; decide) (by rw [sw_47]; decide) (by rw [sw_47]; rfl) (by decide) ?_
          have e47_6 : what = 6 := gsw_eq sw_47 (by decide)
          have n47_0 : ¬ what = 0 := gsw_n2 e47_6 (by decide)
          have n47_1 : ¬ what = 1 := gsw_n2 e47_6 (by decide)
          have n47_2 : ¬ what = 2 := gsw_n2 e47_6 (by decide)
          have n47_3 : ¬ what = 3 := gsw_n2 e47_6 (by decide)
          have n47_4 : ¬ what = 4 := gsw_n2 e47_6 (by decide)
          have n47_5 : ¬ what = 5 := gsw_n2 e47_6 (by decide)
          refine gx_aload_n (q := 0) C dX5_figure_149 rfl ?_
          refine gx_get C (i := 2) (isWS_in hW 0 (Nat.le_of_ble_eq_true rfl)) (isWS_0 hW) rfl in_X5_figure_5 (by decide) fl_X5_figure_30 rfl dX5_figure_150 ?_
          refine gx_callR C (k_X3_freePlaces l hW hN ) (isWS_in hW 2 (Nat.le_of_ble_eq_true rfl)) (isWS_2 hW) rfl (cwV 0 C.2.2.2.2.1 gX5_figure_X3_freePlaces rfl rfl rfl kdV_X3_freePlaces ⟨Nat.le_of_ble_eq_true rfl, Nat.le_of_ble_eq_true rfl⟩) rfl rfl (Nat.le_of_ble_eq_true rfl) ⟨Nat.le_of_ble_eq_true rfl, Nat.le_of_ble_eq_true rfl⟩ dX5_figure_153 ?_
          exact gx_iretR C rfl hr dX5_figure_156 (congrArg Value.int ((if_neg (bF h_8)).trans ((if_neg (bF h_31)).trans ((if_neg n47_0).trans ((if_neg n47_1).trans ((if_neg n47_2).trans ((if_neg n47_3).trans ((if_neg n47_4).trans ((if_neg n47_5).trans ((if_pos e47_6).trans (rfl)))))))))).symm)
        · skip
          refine gx_tableIn (off := 110) (tgt := 157) C dX5_figure_47 (by rw [sw_47]; decide) (by rw [sw_47]; decide) (by rw [sw_47]; rfl) (by decide) ?_
          have e47_7 : what = 7 := gsw_eq sw_47 (by decide)
          have n47_0 : ¬ what = 0 := gsw_n2 e47_7 (by decide)
          have n47_1 : ¬ what = 1 := gsw_n2 e47_7 (by decide)
          have n47_2 : ¬ what = 2 := gsw_n2 e47_7 (by decide)
          have n47_3 : ¬ what = 3 := gsw_n2 e47_7 (by decide)
          have n47_4 : ¬ what = 4 := gsw_n2 e47_7 (by decide)
          have n47_5 : ¬ what = 5 := gsw_n2 e47_7 (by decide)
          have n47_6 : ¬ what = 6 := gsw_n2 e47_7 (by decide)
          refine gx_aload_n (q := 0) C dX5_figure_157 rfl ?_
          refine gx_callR C (k_X5_loadable l hW hN ) (isWS_in hW 0 (Nat.le_of_ble_eq_true rfl)) (isWS_0 hW) rfl (cwV 0 C.2.2.2.2.1 gX5_figure_X5_loadable rfl rfl rfl kdV_X5_loadable ⟨Nat.le_of_ble_eq_true rfl, Nat.le_of_ble_eq_true rfl⟩) rfl rfl (Nat.le_of_ble_eq_true rfl) ⟨Nat.le_of_ble_eq_true rfl, Nat.le_of_ble_eq_true rfl⟩ dX5_figure_158 ?_
          exact gx_iretR C rfl hr dX5_figure_161 (congrArg Value.int ((if_neg (bF h_8)).trans ((if_neg (bF h_31)).trans ((if_neg n47_0).trans ((if_neg n47_1).trans ((if_neg n47_2).trans ((if_neg n47_3).trans ((if_neg n47_4).trans ((if_neg n47_5).trans ((if_neg n47_6).trans ((if_pos e47_7).trans (rfl))))))))))).symm)
        · skip
          refine gx_tableIn (off := 115) (tgt := 162) C dX5_figure_47 (by rw [sw_47]; decide) (by rw [sw_47]; decide) (by rw [sw_47]; rfl) (by decide) ?_
          have e47_8 : what = 8 := gsw_eq sw_47 (by decide)
          have n47_0 : ¬ what = 0 := gsw_n2 e47_8 (by decide)
          have n47_1 : ¬ what = 1 := gsw_n2 e47_8 (by decide)
          have n47_2 : ¬ what = 2 := gsw_n2 e47_8 (by decide)
          have n47_3 : ¬ what = 3 := gsw_n2 e47_8 (by decide)
          have n47_4 : ¬ what = 4 := gsw_n2 e47_8 (by decide)
          have n47_5 : ¬ what = 5 := gsw_n2 e47_8 (by decide)
          have n47_6 : ¬ what = 6 := gsw_n2 e47_8 (by decide)
          have n47_7 : ¬ what = 7 := gsw_n2 e47_8 (by decide)
          refine gx_aload_n (q := 0) C dX5_figure_162 rfl ?_
          refine gx_get C (i := 7) (isWS_in hW 0 (Nat.le_of_ble_eq_true rfl)) (isWS_0 hW) rfl in_X5_figure_5 (by decide) fl_X5_figure_61 rfl dX5_figure_163 ?_
          exact gx_iretR C rfl hr dX5_figure_166 (congrArg Value.int ((if_neg (bF h_8)).trans ((if_neg (bF h_31)).trans ((if_neg n47_0).trans ((if_neg n47_1).trans ((if_neg n47_2).trans ((if_neg n47_3).trans ((if_neg n47_4).trans ((if_neg n47_5).trans ((if_neg n47_6).trans ((if_neg n47_7).trans ((if_pos e47_8).trans (rfl)))))))))))).symm)
        · skip
          refine gx_tableIn (off := 120) (tgt := 167) C dX5_figure_47 (by rw [sw_47]; decide) (by rw [sw_47]; decide) (by rw [sw_47]; rfl) (by decide) ?_
          have e47_9 : what = 9 := gsw_eq sw_47 (by decide)
          have n47_0 : ¬ what = 0 := gsw_n2 e47_9 (by decide)
          have n47_1 : ¬ what = 1 := gsw_n2 e47_9 (by decide)
          have n47_2 : ¬ what = 2 := gsw_n2 e47_9 (by decide)
          have n47_3 : ¬ what = 3 := gsw_n2 e47_9 (by decide)
          have n47_4 : ¬ what = 4 := gsw_n2 e47_9 (by decide)
          have n47_5 : ¬ what = 5 := gsw_n2 e47_9 (by decide)
          have n47_6 : ¬ what = 6 := gsw_n2 e47_9 (by decide)
          have n47_7 : ¬ what = 7 := gsw_n2 e47_9 (by decide)
          have n47_8 : ¬ what = 8 := gsw_n2 e47_9 (by decide)
          refine gx_aload_n (q := 0) C dX5_figure_167 rfl ?_
          refine gx_get C (i := 2) (isWS_in hW 0 (Nat.le_of_ble_eq_true rfl)) (isWS_0 hW) rfl in_X5_figure_5 (by decide) fl_X5_figure_30 rfl dX5_figure_168 ?_
          refine gx_iconst (v := 4) C dX5_figure_171 (by decide) ?_
          refine gx_callR C (k_X3_ofKind l hW hN _) (isWS_in hW 2 (Nat.le_of_ble_eq_true rfl)) (isWS_2 hW) rfl (cwV 1 C.2.2.2.2.1 gX5_figure_X3_ofKind rfl rfl rfl kdV_X3_ofKind ⟨Nat.le_of_ble_eq_true rfl, Nat.le_of_ble_eq_true rfl⟩) rfl rfl (Nat.le_of_ble_eq_true rfl) ⟨Nat.le_of_ble_eq_true rfl, Nat.le_of_ble_eq_true rfl⟩ dX5_figure_172 ?_
          refine gx_callRS C (k_J6_bitCount_0f7a4 l (k := k) (L := L) _) (va_cwS 1 C.2.2.2.2.1 gX5_figure_J6_bitCount_0f7a4 rfl rfl rfl kdN_J6_bitCount_0f7a4 ⟨Nat.le_of_ble_eq_true rfl, Nat.le_of_ble_eq_true rfl⟩) rfl rfl (Nat.le_of_ble_eq_true rfl) ⟨Nat.le_of_ble_eq_true rfl, Nat.le_of_ble_eq_true rfl⟩ dX5_figure_175 ?_
          exact gx_iretR C rfl hr dX5_figure_178 (congrArg Value.int ((if_neg (bF h_8)).trans ((if_neg (bF h_31)).trans ((if_neg n47_0).trans ((if_neg n47_1).trans ((if_neg n47_2).trans ((if_neg n47_3).trans ((if_neg n47_4).trans ((if_neg n47_5).trans ((if_neg n47_6).trans ((if_neg n47_7).trans ((if_neg n47_8).trans ((if_pos e47_9).trans (rfl))))))))))))).symm)
        · skip
          refine gx_tableIn (off := 132) (tgt := 179) C dX5_figure_47 (by rw [sw_47]; decide) (by rw [sw_47]; decide) (by rw [sw_47]; rfl) (by decide) ?_
          have e47_10 : what = 10 := gsw_eq sw_47 (by decide)
          have n47_0 : ¬ what = 0 := gsw_n2 e47_10 (by decide)
          have n47_1 : ¬ what = 1 := gsw_n2 e47_10 (by decide)
          have n47_2 : ¬ what = 2 := gsw_n2 e47_10 (by decide)
          have n47_3 : ¬ what = 3 := gsw_n2 e47_10 (by decide)
          have n47_4 : ¬ what = 4 := gsw_n2 e47_10 (by decide)
          have n47_5 : ¬ what = 5 := gsw_n2 e47_10 (by decide)
          have n47_6 : ¬ what = 6 := gsw_n2 e47_10 (by decide)
          have n47_7 : ¬ what = 7 := gsw_n2 e47_10 (by decide)
          have n47_8 : ¬ what = 8 := gsw_n2 e47_10 (by decide)
          have n47_9 : ¬ what = 9 := gsw_n2 e47_10 (by decide)
          refine gx_aload_n (q := 0) C dX5_figure_179 rfl ?_
          refine gx_get C (i := 4) (isWS_in hW 0 (Nat.le_of_ble_eq_true rfl)) (isWS_0 hW) rfl in_X5_figure_5 (by decide) fl_X5_figure_37 rfl dX5_figure_180 ?_
          refine gx_callR C (kw_X4_sum l hW 11 (Nat.le_of_ble_eq_true rfl) 10 rfl ) (isWS_in hW 25 (Nat.le_of_ble_eq_true rfl)) (isWS_row hW 11 (Nat.le_of_ble_eq_true rfl)) rfl (cwV 0 C.2.2.2.2.1 gX5_figure_X4_sum rfl rfl rfl kdV_X4_sum ⟨Nat.le_of_ble_eq_true rfl, Nat.le_of_ble_eq_true rfl⟩) rfl rfl (Nat.le_of_ble_eq_true rfl) ⟨Nat.le_of_ble_eq_true rfl, Nat.le_of_ble_eq_true rfl⟩ dX5_figure_183 ?_
          exact gx_iretR C rfl hr dX5_figure_186 (congrArg Value.int ((if_neg (bF h_8)).trans ((if_neg (bF h_31)).trans ((if_neg n47_0).trans ((if_neg n47_1).trans ((if_neg n47_2).trans ((if_neg n47_3).trans ((if_neg n47_4).trans ((if_neg n47_5).trans ((if_neg n47_6).trans ((if_neg n47_7).trans ((if_neg n47_8).trans ((if_neg n47_9).trans ((if_pos e47_10).trans (rfl)))))))))))))).symm)
    · skip
      have h_31 := bI1.mp c_31
      refine gx_aload_n (q := 0) C dX5_figure_34 rfl ?_
      refine gx_get C (i := 0) (isWS_in hW 0 (Nat.le_of_ble_eq_true rfl)) (isWS_0 hW) rfl in_X5_figure_5 (by decide) fl_X5_figure_14 rfl dX5_figure_35 ?_
      refine gx_iload_n (q := 1) C dX5_figure_38 rfl ?_
      refine gx_bipush (v := 15) C dX5_figure_39 (by decide) ?_
      refine gx_isub C dX5_figure_41 ?_
      refine gx_callR C (kw_X4_at l hW 0 (Nat.le_of_ble_eq_true rfl) 4 rfl _) (isWS_in hW 3 (Nat.le_of_ble_eq_true rfl)) (isWS_row hW 0 (Nat.le_of_ble_eq_true rfl)) rfl (cwV 1 C.2.2.2.2.1 gX5_figure_X4_at rfl rfl rfl kdV_X4_at ⟨Nat.le_of_ble_eq_true rfl, Nat.le_of_ble_eq_true rfl⟩) rfl rfl (Nat.le_of_ble_eq_true rfl) ⟨Nat.le_of_ble_eq_true rfl, Nat.le_of_ble_eq_true rfl⟩ dX5_figure_42 ?_
      exact gx_iretR C rfl hr dX5_figure_45 (congrArg Value.int ((if_neg (bF h_8)).trans ((if_pos h_31).trans (rfl))).symm)
  · skip
    have h_8 := bI1.mp c_8
    refine gx_aload_n (q := 0) C dX5_figure_11 rfl ?_
    refine gx_get C (i := 3) (isWS_in hW 0 (Nat.le_of_ble_eq_true rfl)) (isWS_0 hW) rfl in_X5_figure_5 (by decide) fl_X5_figure_34 rfl dX5_figure_12 ?_
    refine gx_iload_n (q := 1) C dX5_figure_15 rfl ?_
    refine gx_bipush (v := 11) C dX5_figure_16 (by decide) ?_
    refine gx_isub C dX5_figure_18 ?_
    refine gx_callR C (kw_X4_at l hW 10 (Nat.le_of_ble_eq_true rfl) 4 rfl _) (isWS_in hW 23 (Nat.le_of_ble_eq_true rfl)) (isWS_row hW 10 (Nat.le_of_ble_eq_true rfl)) rfl (cwV 1 C.2.2.2.2.1 gX5_figure_X4_at rfl rfl rfl kdV_X4_at ⟨Nat.le_of_ble_eq_true rfl, Nat.le_of_ble_eq_true rfl⟩) rfl rfl (Nat.le_of_ble_eq_true rfl) ⟨Nat.le_of_ble_eq_true rfl, Nat.le_of_ble_eq_true rfl⟩ dX5_figure_19 ?_
    exact gx_iretR C rfl hr dX5_figure_22 (congrArg Value.int ((if_pos h_8).trans (rfl)).symm)
