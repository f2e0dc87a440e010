theorem kdN_X5_reasonAgainstLoading : yX5_reasonAgainstLoading.cls ≠ "java/lang/invoke/MethodHandle" ∧ yX5_reasonAgainstLoading.cls ≠ "java/lang/invoke/VarHandle" ∧ (parseMethodDescriptor yX5_reasonAgainstLoading.desc).map (fun d => d.parameters.length) = some 1 := by decide +kernel
theorem kdV_X5_reasonAgainstLoading : yX5_reasonAgainstLoading.cls = RX5 ∧ yX5_reasonAgainstLoading.cls ≠ "java/lang/invoke/MethodHandle" ∧ yX5_reasonAgainstLoading.cls ≠ "java/lang/invoke/VarHandle" ∧ (parseMethodDescriptor yX5_reasonAgainstLoading.desc).map (fun d => d.parameters.length) = some 1 := ⟨rfl, kdN_X5_reasonAgainstLoading⟩
def vX5_reasonAgainstLoading (w : WS) (q : Int32) : Int32 := (if (cHas w q) = true then (if (cRack w q) = true then (if (cKind w q 0) = true then (if (cKind w q 0) = true then (if (vX5_nightsLacking w q) ≤ 0 then (if (cOther w (rAt 20 (w.1 5) q)) = true then 4 else (if ((cSizes w) + (rAt 20 (w.1 3) q)) ≤ (rAt 4 (w.1 0) 1) then 0 else 5)) else 3) else (if (cOther w (rAt 20 (w.1 5) q)) = true then 4 else (if ((cSizes w) + (rAt 20 (w.1 3) q)) ≤ (rAt 4 (w.1 0) 1) then 0 else 5))) else (if (cKind w q 2) = true then (if (cKind w q 0) = true then (if (vX5_nightsLacking w q) ≤ 0 then (if (cOther w (rAt 20 (w.1 5) q)) = true then 4 else (if ((cSizes w) + (rAt 20 (w.1 3) q)) ≤ (rAt 4 (w.1 0) 1) then 0 else 5)) else 3) else (if (cOther w (rAt 20 (w.1 5) q)) = true then 4 else (if ((cSizes w) + (rAt 20 (w.1 3) q)) ≤ (rAt 4 (w.1 0) 1) then 0 else 5))) else 2)) else 1) else (-1))
theorem in_X5_reasonAgainstLoading_5 : ∀ w ∈ u_ws RX5 TX5 8, w ∈ wsX5_reasonAgainstLoading := by decide +kernel
theorem fl_X5_reasonAgainstLoading_30 : Cond.fieldLink RX5 30 (TX5 2).1 (TX5 2).2.1 (TX5 2).2.2.1 ∈ wsX5_reasonAgainstLoading := by decide +kernel
theorem in_X5_reasonAgainstLoading_3 : ∀ w ∈ u_ws RX3 TX3 9, w ∈ wsX5_reasonAgainstLoading := by decide +kernel
theorem fl_X5_reasonAgainstLoading_14 : Cond.fieldLink RX5 14 (TX5 0).1 (TX5 0).2.1 (TX5 0).2.2.1 ∈ wsX5_reasonAgainstLoading := by decide +kernel
abbrev rmX5_reasonAgainstLoading : Room := { frames := 3, cells := 0, slots := 0, locals := 66 }
set_option maxHeartbeats 4000000 in
set_option maxRecDepth 100000 in
theorem k_X5_reasonAgainstLoading (l : Launch) {k : gK} {L : List Nat} {f : Nat → va_E} {a : Nat → Nat} {w : WS} (hW : isWS k L f a w) (hN : wOK w) (q : Int32) : kR l k L f yX5_reasonAgainstLoading wsX5_reasonAgainstLoading rmX5_reasonAgainstLoading [.ref (a 0), .int q] (.int (vX5_reasonAgainstLoading w q)) := by
  refine kR_of (cc := cX5_reasonAgainstLoading) (maxL := 3) (ret := (some .int)) (by decide) rfl (Nat.le_of_ble_eq_true rfl) ?_
  intro p e s m args below meth c C hr
  refine gx_lv [(0, _), (1, _)] [0, 1] rfl ?_
  refine gx_aload_n (q := 0) C dX5_reasonAgainstLoading_0 rfl ?_
  refine gx_get C (i := 2) (isWS_in hW 0 (Nat.le_of_ble_eq_true rfl)) (isWS_0 hW) rfl in_X5_reasonAgainstLoading_5 (by decide) fl_X5_reasonAgainstLoading_30 rfl dX5_reasonAgainstLoading_1 ?_
  refine gx_iload_n (q := 1) C dX5_reasonAgainstLoading_4 rfl ?_
  refine gx_callR C (k_X3_has l hW _) (isWS_in hW 2 (Nat.le_of_ble_eq_true rfl)) (isWS_2 hW) rfl (cwV 1 C.2.2.2.2.1 gX5_reasonAgainstLoading_X3_has rfl rfl rfl kdV_X3_has ⟨Nat.le_of_ble_eq_true rfl, Nat.le_of_ble_eq_true rfl⟩) rfl rfl (Nat.le_of_ble_eq_true rfl) ⟨Nat.le_of_ble_eq_true rfl, Nat.le_of_ble_eq_true rfl⟩ dX5_reasonAgainstLoading_5 ?_
  refine gx_if_ne (tgt := 13) C dX5_reasonAgainstLoading_8 (by decide) (fun c_8 => ?_) (fun c_8 => ?_)
  · skip
    have h_8 := bI1.mp c_8
    refine gx_aload_n (q := 0) C dX5_reasonAgainstLoading_13 rfl ?_
    refine gx_get C (i := 2) (isWS_in hW 0 (Nat.le_of_ble_eq_true rfl)) (isWS_0 hW) rfl in_X5_reasonAgainstLoading_5 (by decide) fl_X5_reasonAgainstLoading_30 rfl dX5_reasonAgainstLoading_14 ?_
    refine gx_iload_n (q := 1) C dX5_reasonAgainstLoading_17 rfl ?_
    refine gx_callR C (k_X3_isOnRack l hW _) (isWS_in hW 2 (Nat.le_of_ble_eq_true rfl)) (isWS_2 hW) rfl (cwV 1 C.2.2.2.2.1 gX5_reasonAgainstLoading_X3_isOnRack rfl rfl rfl kdV_X3_isOnRack ⟨Nat.le_of_ble_eq_true rfl, Nat.le_of_ble_eq_true rfl⟩) rfl rfl (Nat.le_of_ble_eq_true rfl) ⟨Nat.le_of_ble_eq_true rfl, Nat.le_of_ble_eq_true rfl⟩ dX5_reasonAgainstLoading_18 ?_
    refine gx_if_ne (tgt := 26) C dX5_reasonAgainstLoading_21 (by decide) (fun c_21 => ?_) (fun c_21 => ?_)
    · skip
      have h_21 := bI1.mp c_21
      refine gx_aload_n (q := 0) C dX5_reasonAgainstLoading_26 rfl ?_
      refine gx_get C (i := 2) (isWS_in hW 0 (Nat.le_of_ble_eq_true rfl)) (isWS_0 hW) rfl in_X5_reasonAgainstLoading_5 (by decide) fl_X5_reasonAgainstLoading_30 rfl dX5_reasonAgainstLoading_27 ?_
      refine gx_iload_n (q := 1) C dX5_reasonAgainstLoading_30 rfl ?_
      refine gx_iconst (v := 0) C dX5_reasonAgainstLoading_31 (by decide) ?_
      refine gx_callR C (k_X3_isKind l hW _ _) (isWS_in hW 2 (Nat.le_of_ble_eq_true rfl)) (isWS_2 hW) rfl (cwV 2 C.2.2.2.2.1 gX5_reasonAgainstLoading_X3_isKind rfl rfl rfl kdV_X3_isKind ⟨Nat.le_of_ble_eq_true rfl, Nat.le_of_ble_eq_true rfl⟩) rfl rfl (Nat.le_of_ble_eq_true rfl) ⟨Nat.le_of_ble_eq_true rfl, Nat.le_of_ble_eq_true rfl⟩ dX5_reasonAgainstLoading_32 ?_
      refine gx_istore_n C (i := 2) [(2, _), (0, _), (1, _)] dX5_reasonAgainstLoading_35 rfl (by decide) rfl ?_
      refine gx_iload_n (q := 0) C dX5_reasonAgainstLoading_36 rfl ?_
      refine gx_if_ne (tgt := 54) C dX5_reasonAgainstLoading_37 (by decide) (fun c_37 => ?_) (fun c_37 => ?_)
      · skip
        have h_37 := bI1.mp c_37
        refine gx_iload_n (q := 0) C dX5_reasonAgainstLoading_54 rfl ?_
        refine gx_if_eq (tgt := 68) C dX5_reasonAgainstLoading_55 (by decide) (fun c_55 => ?_) (fun c_55 => ?_)
        · skip
          have h_55 := bI0.mp c_55
          refine gx_aload_n (q := 1) C dX5_reasonAgainstLoading_68 rfl ?_
          refine gx_get C (i := 2) (isWS_in hW 0 (Nat.le_of_ble_eq_true rfl)) (isWS_0 hW) rfl in_X5_reasonAgainstLoading_5 (by decide) fl_X5_reasonAgainstLoading_30 rfl dX5_reasonAgainstLoading_69 ?_
          refine gx_aload_n (q := 1) C dX5_reasonAgainstLoading_72 rfl ?_
          refine gx_get C (i := 2) (isWS_in hW 0 (Nat.le_of_ble_eq_true rfl)) (isWS_0 hW) rfl in_X5_reasonAgainstLoading_5 (by decide) fl_X5_reasonAgainstLoading_30 rfl dX5_reasonAgainstLoading_73 ?_
          refine gx_getN C (i := 3) (isWS_in hW 2 (Nat.le_of_ble_eq_true rfl)) (isWS_2 hW) rfl in_X5_reasonAgainstLoading_3 (by decide) (by decide +kernel) rfl dX5_reasonAgainstLoading_76 ?_
          refine gx_iload_n (q := 2) C dX5_reasonAgainstLoading_79 rfl ?_
          refine gx_callR C (kw_X4_at l hW 5 (Nat.le_of_ble_eq_true rfl) 20 rfl _) (isWS_in hW 13 (Nat.le_of_ble_eq_true rfl)) (isWS_row hW 5 (Nat.le_of_ble_eq_true rfl)) rfl (cwV 1 C.2.2.2.2.1 gX5_reasonAgainstLoading_X4_at rfl rfl rfl kdV_X4_at ⟨Nat.le_of_ble_eq_true rfl, Nat.le_of_ble_eq_true rfl⟩) rfl rfl (Nat.le_of_ble_eq_true rfl) ⟨Nat.le_of_ble_eq_true rfl, Nat.le_of_ble_eq_true rfl⟩ dX5_reasonAgainstLoading_80 ?_
          refine gx_callR C (k_X3_isKilnForOtherThan l hW hN _) (isWS_in hW 2 (Nat.le_of_ble_eq_true rfl)) (isWS_2 hW) rfl (cwV 1 C.2.2.2.2.1 gX5_reasonAgainstLoading_X3_isKilnForOtherThan rfl rfl rfl kdV_X3_isKilnForOtherThan ⟨Nat.le_of_ble_eq_true rfl, Nat.le_of_ble_eq_true rfl⟩) rfl rfl (Nat.le_of_ble_eq_true rfl) ⟨Nat.le_of_ble_eq_true rfl, Nat.le_of_ble_eq_true rfl⟩ dX5_reasonAgainstLoading_83 ?_
          refine gx_if_eq (tgt := 91) C dX5_reasonAgainstLoading_86 (by decide) (fun c_86 => ?_) (fun c_86 => ?_)
          · skip
            have h_86 := bI0.mp c_86
            refine gx_aload_n (q := 1) C dX5_reasonAgainstLoading_91 rfl ?_
            refine gx_get C (i := 2) (isWS_in hW 0 (Nat.le_of_ble_eq_true rfl)) (isWS_0 hW) rfl in_X5_reasonAgainstLoading_5 (by decide) fl_X5_reasonAgainstLoading_30 rfl dX5_reasonAgainstLoading_92 ?_
            refine gx_callR C (k_X3_sizesInKiln l hW hN ) (isWS_in hW 2 (Nat.le_of_ble_eq_true rfl)) (isWS_2 hW) rfl (cwV 0 C.2.2.2.2.1 gX5_reasonAgainstLoading_X3_sizesInKiln rfl rfl rfl kdV_X3_sizesInKiln ⟨Nat.le_of_ble_eq_true rfl, Nat.le_of_ble_eq_true rfl⟩) rfl rfl (Nat.le_of_ble_eq_true rfl) ⟨Nat.le_of_ble_eq_true rfl, Nat.le_of_ble_eq_true rfl⟩ dX5_reasonAgainstLoading_95 ?_
            refine gx_aload_n (q := 1) C dX5_reasonAgainstLoading_98 rfl ?_
            refine gx_get C (i := 2) (isWS_in hW 0 (Nat.le_of_ble_eq_true rfl)) (isWS_0 hW) rfl in_X5_reasonAgainstLoading_5 (by decide) fl_X5_reasonAgainstLoading_30 rfl dX5_reasonAgainstLoading_99 ?_
            refine gx_getN C (i := 1) (isWS_in hW 2 (Nat.le_of_ble_eq_true rfl)) (isWS_2 hW) rfl in_X5_reasonAgainstLoading_3 (by decide) (by decide +kernel) rfl dX5_reasonAgainstLoading_102 ?_
            refine gx_iload_n (q := 2) C dX5_reasonAgainstLoading_105 rfl ?_
            refine gx_callR C (kw_X4_at l hW 3 (Nat.le_of_ble_eq_true rfl) 20 rfl _) (isWS_in hW 9 (Nat.le_of_ble_eq_true rfl)) (isWS_row hW 3 (Nat.le_of_ble_eq_true rfl)) rfl (cwV 1 C.2.2.2.2.1 gX5_reasonAgainstLoading_X4_at rfl rfl rfl kdV_X4_at ⟨Nat.le_of_ble_eq_true rfl, Nat.le_of_ble_eq_true rfl⟩) rfl rfl (Nat.le_of_ble_eq_true rfl) ⟨Nat.le_of_ble_eq_true rfl, Nat.le_of_ble_eq_true rfl⟩ dX5_reasonAgainstLoading_106 ?_
            refine gx_iadd C dX5_reasonAgainstLoading_109 ?_
            refine gx_aload_n (q := 1) C dX5_reasonAgainstLoading_110 rfl ?_
            refine gx_get C (i := 0) (isWS_in hW 0 (Nat.le_of_ble_eq_true rfl)) (isWS_0 hW) rfl in_X5_reasonAgainstLoading_5 (by decide) fl_X5_reasonAgainstLoading_14 rfl dX5_reasonAgainstLoading_111 ?_
            refine gx_iconst (v := 1) C dX5_reasonAgainstLoading_114 (by decide) ?_
            refine gx_callR C (kw_X4_at l hW 0 (Nat.le_of_ble_eq_true rfl) 4 rfl _) (isWS_in hW 3 (Nat.le_of_ble_eq_true rfl)) (isWS_row hW 0 (Nat.le_of_ble_eq_true rfl)) rfl (cwV 1 C.2.2.2.2.1 gX5_reasonAgainstLoading_X4_at rfl rfl rfl kdV_X4_at ⟨Nat.le_of_ble_eq_true rfl, Nat.le_of_ble_eq_true rfl⟩) rfl rfl (Nat.le_of_ble_eq_true rfl) ⟨Nat.le_of_ble_eq_true rfl, Nat.le_of_ble_eq_true rfl⟩ dX5_reasonAgainstLoading_115 ?_
            refine gx_icmp_le (tgt := 125) C dX5_reasonAgainstLoading_118 (by decide) (fun c_118 => ?_) (fun c_118 => ?_)
            · skip
              refine gx_iconst (v := 0) C dX5_reasonAgainstLoading_125 (by decide) ?_
              exact gx_iretR C rfl hr dX5_reasonAgainstLoading_126 (congrArg Value.int ((if_pos h_8).trans ((if_pos h_21).trans ((if_pos h_37).trans ((if_neg (bF h_55)).trans ((if_neg (bF h_86)).trans ((if_pos c_118).trans (rfl))))))).symm)
            · skip
              refine gx_iconst (v := 5) C dX5_reasonAgainstLoading_121 (by decide) ?_
              refine gx_goto (tgt := 126) C dX5_reasonAgainstLoading_122 (by decide) ?_
              exact gx_iretR C rfl hr dX5_reasonAgainstLoading_126 (congrArg Value.int ((if_pos h_8).trans ((if_pos h_21).trans ((if_pos h_37).trans ((if_neg (bF h_55)).trans ((if_neg (bF h_86)).trans ((if_neg c_118).trans (rfl))))))).symm)
          · skip
            have h_86 := bI1.mp c_86
            refine gx_iconst (v := 4) C dX5_reasonAgainstLoading_89 (by decide) ?_
            exact gx_iretR C rfl hr dX5_reasonAgainstLoading_90 (congrArg Value.int ((if_pos h_8).trans ((if_pos h_21).trans ((if_pos h_37).trans ((if_neg (bF h_55)).trans ((if_pos h_86).trans (rfl)))))).symm)
        · skip
          have h_55 := bI1.mp c_55
          refine gx_aload_n (q := 1) C dX5_reasonAgainstLoading_58 rfl ?_
          refine gx_iload_n (q := 2) C dX5_reasonAgainstLoading_59 rfl ?_
          refine gx_callR C (k_X5_nightsLacking l hW _) (isWS_in hW 0 (Nat.le_of_ble_eq_true rfl)) (isWS_0 hW) rfl (cwV 1 C.2.2.2.2.1 gX5_reasonAgainstLoading_X5_nightsLacking rfl rfl rfl kdV_X5_nightsLacking ⟨Nat.le_of_ble_eq_true rfl, Nat.le_of_ble_eq_true rfl⟩) rfl rfl (Nat.le_of_ble_eq_true rfl) ⟨Nat.le_of_ble_eq_true rfl, Nat.le_of_ble_eq_true rfl⟩ dX5_reasonAgainstLoading_60 ?_
          refine gx_if_le (tgt := 68) C dX5_reasonAgainstLoading_63 (by decide) (fun c_63 => ?_) (fun c_63 => ?_)
          · skip
            refine gx_aload_n (q := 1) C dX5_reasonAgainstLoading_68 rfl ?_
            refine gx_get C (i := 2) (isWS_in hW 0 (Nat.le_of_ble_eq_true rfl)) (isWS_0 hW) rfl in_X5_reasonAgainstLoading_5 (by decide) fl_X5_reasonAgainstLoading_30 rfl dX5_reasonAgainstLoading_69 ?_
            refine gx_aload_n (q := 1) C dX5_reasonAgainstLoading_72 rfl ?_
            refine gx_get C (i := 2) (isWS_in hW 0 (Nat.le_of_ble_eq_true rfl)) (isWS_0 hW) rfl in_X5_reasonAgainstLoading_5 (by decide) fl_X5_reasonAgainstLoading_30 rfl dX5_reasonAgainstLoading_73 ?_
            refine gx_getN C (i := 3) (isWS_in hW 2 (Nat.le_of_ble_eq_true rfl)) (isWS_2 hW) rfl in_X5_reasonAgainstLoading_3 (by decide) (by decide +kernel) rfl dX5_reasonAgainstLoading_76 ?_
            refine gx_iload_n (q := 2) C dX5_reasonAgainstLoading_79 rfl ?_
            refine gx_callR C (kw_X4_at l hW 5 (Nat.le_of_ble_eq_true rfl) 20 rfl _) (isWS_in hW 13 (Nat.le_of_ble_eq_true rfl)) (isWS_row hW 5 (Nat.le_of_ble_eq_true rfl)) rfl (cwV 1 C.2.2.2.2.1 gX5_reasonAgainstLoading_X4_at rfl rfl rfl kdV_X4_at ⟨Nat.le_of_ble_eq_true rfl, Nat.le_of_ble_eq_true rfl⟩) rfl rfl (Nat.le_of_ble_eq_true rfl) ⟨Nat.le_of_ble_eq_true rfl, Nat.le_of_ble_eq_true rfl⟩ dX5_reasonAgainstLoading_80 ?_
            refine gx_callR C (k_X3_isKilnForOtherThan l hW hN _) (isWS_in hW 2 (Nat.le_of_ble_eq_true rfl)) (isWS_2 hW) rfl (cwV 1 C.2.2.2.2.1 gX5_reasonAgainstLoading_X3_isKilnForOtherThan rfl rfl rfl kdV_X3_isKilnForOtherThan ⟨Nat.le_of_ble_eq_true rfl, Nat.le_of_ble_eq_true rfl⟩) rfl rfl (Nat.le_of_ble_eq_true rfl) ⟨Nat.le_of_ble_eq_true rfl, Nat.le_of_ble_eq_true rfl⟩ dX5_reasonAgainstLoading_83 ?_
            refine gx_if_eq (tgt := 91) C dX5_reasonAgainstLoading_86 (by decide) (fun c_86 => ?_) (fun c_86 => ?_)
            · skip
              have h_86 := bI0.mp c_86
              refine gx_aload_n (q := 1) C dX5_reasonAgainstLoading_91 rfl ?_
              refine gx_get C (i := 2) (isWS_in hW 0 (Nat.le_of_ble_eq_true rfl)) (isWS_0 hW) rfl in_X5_reasonAgainstLoading_5 (by decide) fl_X5_reasonAgainstLoading_30 rfl dX5_reasonAgainstLoading_92 ?_
              refine gx_callR C (k_X3_sizesInKiln l hW hN ) (isWS_in hW 2 (Nat.le_of_ble_eq_true rfl)) (isWS_2 hW) rfl (cwV 0 C.2.2.2.2.1 gX5_reasonAgainstLoading_X3_sizesInKiln rfl rfl rfl kdV_X3_sizesInKiln ⟨Nat.le_of_ble_eq_true rfl, Nat.le_of_ble_eq_true rfl⟩) rfl rfl (Nat.le_of_ble_eq_true rfl) ⟨Nat.le_of_ble_eq_true rfl, Nat.le_of_ble_eq_true rfl⟩ dX5_reasonAgainstLoading_95 ?_
              refine gx_aload_n (q := 1) C dX5_reasonAgainstLoading_98 rfl ?_
              refine gx_get C (i := 2) (isWS_in hW 0 (Nat.le_of_ble_eq_true rfl)) (isWS_0 hW) rfl in_X5_reasonAgainstLoading_5 (by decide) fl_X5_reasonAgainstLoading_30 rfl dX5_reasonAgainstLoading_99 ?_
              refine gx_getN C (i := 1) (isWS_in hW 2 (Nat.le_of_ble_eq_true rfl)) (isWS_2 hW) rfl in_X5_reasonAgainstLoading_3 (by decide) (by decide +kernel) rfl dX5_reasonAgainstLoading_102 ?_
              refine gx_iload_n (q := 2) C dX5_reasonAgainstLoading_105 rfl ?_
              refine gx_callR C (kw_X4_at l hW 3 (Nat.le_of_ble_eq_true rfl) 20 rfl _) (isWS_in hW 9 (Nat.le_of_ble_eq_true rfl)) (isWS_row hW 3 (Nat.le_of_ble_eq_true rfl)) rfl (cwV 1 C.2.2.2.2.1 gX5_reasonAgainstLoading_X4_at rfl rfl rfl kdV_X4_at ⟨Nat.le_of_ble_eq_true rfl, Nat.le_of_ble_eq_true rfl⟩) rfl rfl (Nat.le_of_ble_eq_true rfl) ⟨Nat.le_of_ble_eq_true rfl, Nat.le_of_ble_eq_true rfl⟩ dX5_reasonAgainstLoading_106 ?_
              refine gx_iadd C dX5_reasonAgainstLoading_109 ?_
              refine gx_aload_n (q := 1) C dX5_reasonAgainstLoading_110 rfl ?_
              refine gx_get C (i := 0) (isWS_in hW 0 (Nat.le_of_ble_eq_true rfl)) (isWS_0 hW) rfl in_X5_reasonAgainstLoading_5 (by decide) fl_X5_reasonAgainstLoading_14 rfl dX5_reasonAgainstLoading_111 ?_
              refine gx_iconst (v := 1) C dX5_reasonAgainstLoading_114 (by decide) ?_
              refine gx_callR C (kw_X4_at l hW 0 (Nat.le_of_ble_eq_true rfl) 4 rfl _) (isWS_in hW 3 (Nat.le_of_ble_eq_true rfl)) (isWS_row hW 0 (Nat.le_of_ble_eq_true rfl)) rfl (cwV 1 C.2.2.2.2.1 gX5_reasonAgainstLoading_X4_at rfl rfl rfl kdV_X4_at ⟨Nat.le_of_ble_eq_true rfl, Nat.le_of_ble_eq_true rfl⟩) rfl rfl (Nat.le_of_ble_eq_true rfl) ⟨Nat.le_of_ble_eq_true rfl, Nat.le_of_ble_eq_true rfl⟩ dX5_reasonAgainstLoading_115 ?_
              refine gx_icmp_le (tgt := 125) C dX5_reasonAgainstLoading_118 (by decide) (fun c_118 => ?_) (fun c_118 => ?_)
              · skip
                refine gx_iconst (v := 0) C dX5_reasonAgainstLoading_125 (by decide) ?_
                exact gx_iretR C rfl hr dX5_reasonAgainstLoading_126 (congrArg Value.int ((if_pos h_8).trans ((if_pos h_21).trans ((if_pos h_37).trans ((if_pos h_55).trans ((if_pos c_63).trans ((if_neg (bF h_86)).trans ((if_pos c_118).trans (rfl)))))))).symm)
              · skip
                refine gx_iconst (v := 5) C dX5_reasonAgainstLoading_121 (by decide) ?_
                refine gx_goto (tgt := 126) C dX5_reasonAgainstLoading_122 (by decide) ?_
                exact gx_iretR C rfl hr dX5_reasonAgainstLoading_126 (congrArg Value.int ((if_pos h_8).trans ((if_pos h_21).trans ((if_pos h_37).trans ((if_pos h_55).trans ((if_pos c_63).trans ((if_neg (bF h_86)).trans ((if_neg c_118).trans (rfl)))))))).symm)
            · skip
              have h_86 := bI1.mp c_86
              refine gx_iconst (v := 4) C dX5_reasonAgainstLoading_89 (by decide) ?_
              exact gx_iretR C rfl hr dX5_reasonAgainstLoading_90 (congrArg Value.int ((if_pos h_8).trans ((if_pos h_21).trans ((if_pos h_37).trans ((if_pos h_55).trans ((if_pos c_63).trans ((if_pos h_86).trans (rfl))))))).symm)
          · skip
            refine gx_iconst (v := 3) C dX5_reasonAgainstLoading_66 (by decide) ?_
            exact gx_iretR C rfl hr dX5_reasonAgainstLoading_67 (congrArg Value.int ((if_pos h_8).trans ((if_pos h_21).trans ((if_pos h_37).trans ((if_pos h_55).trans ((if_neg c_63).trans (rfl)))))).symm)
      · skip
        have h_37 := bI0.mp c_37
        refine gx_aload_n (q := 1) C dX5_reasonAgainstLoading_40 rfl ?_
        refine gx_get C (i := 2) (isWS_in hW 0 (Nat.le_of_ble_eq_true rfl)) (isWS_0 hW) rfl in_X5_reasonAgainstLoading_5 (by decide) fl_X5_reasonAgainstLoading_30 rfl dX5_reasonAgainstLoading_41 ?_
        refine gx_iload_n (q := 2) C dX5_reasonAgainstLoading_44 rfl ?_
        refine gx_iconst (v := 2) C dX5_reasonAgainstLoading_45 (by decide) ?_
        refine gx_callR C (k_X3_isKind l hW _ _) (isWS_in hW 2 (Nat.le_of_ble_eq_true rfl)) (isWS_2 hW) rfl (cwV 2 C.2.2.2.2.1 gX5_reasonAgainstLoading_X3_isKind rfl rfl rfl kdV_X3_isKind ⟨Nat.le_of_ble_eq_true rfl, Nat.le_of_ble_eq_true rfl⟩) rfl rfl (Nat.le_of_ble_eq_true rfl) ⟨Nat.le_of_ble_eq_true rfl, Nat.le_of_ble_eq_true rfl⟩ dX5_reasonAgainstLoading_46 ?_
        refine gx_if_ne (tgt := 54) C dX5_reasonAgainstLoading_49 (by decide) (fun c_49 => ?_) (fun c_49 => ?_)
        · skip
          have h_49 := bI1.mp c_49
          refine gx_iload_n (q := 0) C dX5_reasonAgainstLoading_54 rfl ?_
          refine gx_if_eq (tgt := 68) C dX5_reasonAgainstLoading_55 (by decide) (fun c_55 => ?_) (fun c_55 => ?_)
          · skip
            have h_55 := bI0.mp c_55
            refine gx_aload_n (q := 1) C dX5_reasonAgainstLoading_68 rfl ?_
            refine gx_get C (i := 2) (isWS_in hW 0 (Nat.le_of_ble_eq_true rfl)) (isWS_0 hW) rfl in_X5_reasonAgainstLoading_5 (by decide) fl_X5_reasonAgainstLoading_30 rfl dX5_reasonAgainstLoading_69 ?_
            refine gx_aload_n (q := 1) C dX5_reasonAgainstLoading_72 rfl ?_
            refine gx_get C (i := 2) (isWS_in hW 0 (Nat.le_of_ble_eq_true rfl)) (isWS_0 hW) rfl in_X5_reasonAgainstLoading_5 (by decide) fl_X5_reasonAgainstLoading_30 rfl dX5_reasonAgainstLoading_73 ?_
            refine gx_getN C (i := 3) (isWS_in hW 2 (Nat.le_of_ble_eq_true rfl)) (isWS_2 hW) rfl in_X5_reasonAgainstLoading_3 (by decide) (by decide +kernel) rfl dX5_reasonAgainstLoading_76 ?_
            refine gx_iload_n (q := 2) C dX5_reasonAgainstLoading_79 rfl ?_
            refine gx_callR C (kw_X4_at l hW 5 (Nat.le_of_ble_eq_true rfl) 20 rfl _) (isWS_in hW 13 (Nat.le_of_ble_eq_true rfl)) (isWS_row hW 5 (Nat.le_of_ble_eq_true rfl)) rfl (cwV 1 C.2.2.2.2.1 gX5_reasonAgainstLoading_X4_at rfl rfl rfl kdV_X4_at ⟨Nat.le_of_ble_eq_true rfl, Nat.le_of_ble_eq_true rfl⟩) rfl rfl (Nat.le_of_ble_eq_true rfl) ⟨Nat.le_of_ble_eq_true rfl, Nat.le_of_ble_eq_true rfl⟩ dX5_reasonAgainstLoading_80 ?_
            refine gx_callR C (k_X3_isKilnForOtherThan l hW hN _) (isWS_in hW 2 (Nat.le_of_ble_eq_true rfl)) (isWS_2 hW) rfl (cwV 1 C.2.2.2.2.1 gX5_reasonAgainstLoading_X3_isKilnForOtherThan rfl rfl rfl kdV_X3_isKilnForOtherThan ⟨Nat.le_of_ble_eq_true rfl, Nat.le_of_ble_eq_true rfl⟩) rfl rfl (Nat.le_of_ble_eq_true rfl) ⟨Nat.le_of_ble_eq_true rfl, Nat.le_of_ble_eq_true rfl⟩ dX5_reasonAgainstLoading_83 ?_
            refine gx_if_eq (tgt := 91) C dX5_reasonAgainstLoading_86 (by decide) (fun c_86 => ?_) (fun c_86 => ?_)
            · skip
              have h_86 := bI0.mp c_86
              refine gx_aload_n (q := 1) C dX5_reasonAgainstLoading_91 rfl ?_
              refine gx_get C (i := 2) (isWS_in hW 0 (Nat.le_of_ble_eq_true rfl)) (isWS_0 hW) rfl in_X5_reasonAgainstLoading_5 (by decide) fl_X5_reasonAgainstLoading_30 rfl dX5_reasonAgainstLoading_92 ?_
              refine gx_callR C (k_X3_sizesInKiln l hW hN ) (isWS_in hW 2 (Nat.le_of_ble_eq_true rfl)) (isWS_2 hW) rfl (cwV 0 C.2.2.2.2.1 gX5_reasonAgainstLoading_X3_sizesInKiln rfl rfl rfl kdV_X3_sizesInKiln ⟨Nat.le_of_ble_eq_true rfl, Nat.le_of_ble_eq_true rfl⟩) rfl rfl (Nat.le_of_ble_eq_true rfl) ⟨Nat.le_of_ble_eq_true rfl, Nat.le_of_ble_eq_true rfl⟩ dX5_reasonAgainstLoading_95 ?_
              refine gx_aload_n (q := 1) C dX5_reasonAgainstLoading_98 rfl ?_
              refine gx_get C (i := 2) (isWS_in hW 0 (Nat.le_of_ble_eq_true rfl)) (isWS_0 hW) rfl in_X5_reasonAgainstLoading_5 (by decide) fl_X5_reasonAgainstLoading_30 rfl dX5_reasonAgainstLoading_99 ?_
              refine gx_getN C (i := 1) (isWS_in hW 2 (Nat.le_of_ble_eq_true rfl)) (isWS_2 hW) rfl in_X5_reasonAgainstLoading_3 (by decide) (by decide +kernel) rfl dX5_reasonAgainstLoading_102 ?_
              refine gx_iload_n (q := 2) C dX5_reasonAgainstLoading_105 rfl ?_
              refine gx_callR C (kw_X4_at l hW 3 (Nat.le_of_ble_eq_true rfl) 20 rfl _) (isWS_in hW 9 (Nat.le_of_ble_eq_true rfl)) (isWS_row hW 3 (Nat.le_of_ble_eq_true rfl)) rfl (cwV 1 C.2.2.2.2.1 gX5_reasonAgainstLoading_X4_at rfl rfl rfl kdV_X4_at ⟨Nat.le_of_ble_eq_true rfl, Nat.le_of_ble_eq_true rfl⟩) rfl rfl (Nat.le_of_ble_eq_true rfl) ⟨Nat.le_of_ble_eq_true rfl, Nat.le_of_ble_eq_true rfl⟩ dX5_reasonAgainstLoading_106 ?_
              refine gx_iadd C dX5_reasonAgainstLoading_109 ?_
              refine gx_aload_n (q := 1) C dX5_reasonAgainstLoading_110 rfl ?_
              refine gx_get C (i := 0) (isWS_in hW 0 (Nat.le_of_ble_eq_true rfl)) (isWS_0 hW) rfl in_X5_reasonAgainstLoading_5 (by decide) fl_X5_reasonAgainstLoading_14 rfl dX5_reasonAgainstLoading_111 ?_
              refine gx_iconst (v := 1) C dX5_reasonAgainstLoading_114 (by decide) ?_
              refine gx_callR C (kw_X4_at l hW 0 (Nat.le_of_ble_eq_true rfl) 4 rfl _) (isWS_in hW 3 (Nat.le_of_ble_eq_true rfl)) (isWS_row hW 0 (Nat.le_of_ble_eq_true rfl)) rfl (cwV 1 C.2.2.2.2.1 gX5_reasonAgainstLoading_X4_at rfl rfl rfl kdV_X4_at ⟨Nat.le_of_ble_eq_true rfl, Nat.le_of_ble_eq_true rfl⟩) rfl rfl (Nat.le_of_ble_eq_true rfl) ⟨Nat.le_of_ble_eq_true rfl, Nat.le_of_ble_eq_true rfl⟩ dX5_reasonAgainstLoading_115 ?_
              refine gx_icmp_le (tgt := 125) C dX5_reasonAgainstLoading_118 (by decide) (fun c_118 => ?_) (fun c_118 => ?_)
              · skip
                refine gx_iconst (v := 0) C dX5_reasonAgainstLoading_125 (by decide) ?_
                exact gx_iretR C rfl hr dX5_reasonAgainstLoading_126 (congrArg Value.int ((if_pos h_8).trans ((if_pos h_21).trans ((if_neg (bF h_37)).trans ((if_pos h_49).trans ((if_neg (bF h_55)).trans ((if_neg (bF h_86)).trans ((if_pos c_118).trans (rfl)))))))).symm)
              · skip
                refine gx_iconst (v := 5) C dX5_reasonAgainstLoading_121 (by decide) ?_
                refine gx_goto (tgt := 126) C dX5_reasonAgainstLoading_122 (by decide) ?_
                exact gx_iretR C rfl hr dX5_reasonAgainstLoading_126 (congrArg Value.int ((if_pos h_8).trans ((if_pos h_21).trans ((if_neg (bF h_37)).trans ((if_pos h_49).trans ((if_neg (bF h_55)).trans ((if_neg (bF h_86)).trans ((if_neg c_118).trans (rfl)))))))).symm)
            · skip
              have h_86 := bI1.mp c_86
              refine gx_iconst (v := 4) C dX5_reasonAgainstLoading_89 (by decide) ?_
              exact gx_iretR C rfl hr dX5_reasonAgainstLoading_90 (congrArg Value.int ((if_pos h_8).trans ((if_pos h_21).trans ((if_neg (bF h_37)).trans ((if_pos h_49).trans ((if_neg (bF h_55)).trans ((if_pos h_86).trans (rfl))))))).symm)
          · skip
            have h_55 := bI1.mp c_55
            refine gx_aload_n (q := 1) C dX5_reasonAgainstLoading_58 rfl ?_
            refine gx_iload_n (q := 2) C dX5_reasonAgainstLoading_59 rfl ?_
            refine gx_callR C (k_X5_nightsLacking l hW _) (isWS_in hW 0 (Nat.le_of_ble_eq_true rfl)) (isWS_0 hW) rfl (cwV 1 C.2.2.2.2.1 gX5_reasonAgainstLoading_X5_nightsLacking rfl rfl rfl kdV_X5_nightsLacking ⟨Nat.le_of_ble_eq_true rfl, Nat.le_of_ble_eq_true rfl⟩) rfl rfl (Nat.le_of_ble_eq_true rfl) ⟨Nat.le_of_ble_eq_true rfl, Nat.le_of_ble_eq_true rfl⟩ dX5_reasonAgainstLoading_60 ?_
            refine gx_if_le (tgt := 68) C dX5_reasonAgainstLoading_63 (by decide) (fun c_63 => ?_) (fun c_63 => ?_)
            · skip
              refine gx_aload_n (q := 1) C dX5_reasonAgainstLoading_68 rfl ?_
              refine gx_get C (i := 2) (isWS_in hW 0 (Nat.le_of_ble_eq_true rfl)) (isWS_0 hW) rfl in_X5_reasonAgainstLoading_5 (by decide) fl_X5_reasonAgainstLoading_30 rfl dX5_reasonAgainstLoading_69 ?_
              refine gx_aload_n (q := 1) C dX5_reasonAgainstLoading_72 rfl ?_
              refine gx_get C (i := 2) (isWS_in hW 0 (Nat.le_of_ble_eq_true rfl)) (isWS_0 hW) rfl in_X5_reasonAgainstLoading_5 (by decide) fl_X5_reasonAgainstLoading_30 rfl dX5_reasonAgainstLoading_73 ?_
              refine gx_getN C (i := 3) (isWS_in hW 2 (Nat.le_of_ble_eq_true rfl)) (isWS_2 hW) rfl in_X5_reasonAgainstLoading_3 (by decide) (by decide +kernel) rfl dX5_reasonAgainstLoading_76 ?_
              refine gx_iload_n (q := 2) C dX5_reasonAgainstLoading_79 rfl ?_
              refine gx_callR C (kw_X4_at l hW 5 (Nat.le_of_ble_eq_true rfl) 20 rfl _) (isWS_in hW 13 (Nat.le_of_ble_eq_true rfl)) (isWS_row hW 5 (Nat.le_of_ble_eq_true rfl)) rfl (cwV 1 C.2.2.2.2.1 gX5_reasonAgainstLoading_X4_at rfl rfl rfl kdV_X4_at ⟨Nat.le_of_ble_eq_true rfl, Nat.le_of_ble_eq_true rfl⟩) rfl rfl (Nat.le_of_ble_eq_true rfl) ⟨Nat.le_of_ble_eq_true rfl, Nat.le_of_ble_eq_true rfl⟩ dX5_reasonAgainstLoading_80 ?_
              refine gx_callR C (k_X3_isKilnForOtherThan l hW hN _) (isWS_in hW 2 (Nat.le_of_ble_eq_true rfl)) (isWS_2 hW) rfl (cwV 1 C.2.2.2.2.1 gX5_reasonAgainstLoading_X3_isKilnForOtherThan rfl rfl rfl kdV_X3_isKilnForOtherThan ⟨Nat.le_of_ble_eq_true rfl, Nat.le_of_ble_eq_true rfl⟩) rfl rfl (Nat.le_of_ble_eq_true rfl) ⟨Nat.le_of_ble_eq_true rfl, Nat.le_of_ble_eq_true rfl⟩ dX5_reasonAgainstLoading_83 ?_
              refine gx_if_eq (tgt := 91) C dX5_reasonAgainstLoading_86 (by decide) (fun c_86 => ?_) (fun c_86 => ?_)
              · skip
                have h_86 := bI0.mp c_86
                refine gx_aload_n (q := 1) C dX5_reasonAgainstLoading_91 rfl ?_
                refine gx_get C (i := 2) (isWS_in hW 0 (Nat.le_of_ble_eq_true rfl)) (isWS_0 hW) rfl in_X5_reasonAgainstLoading_5 (by decide) fl_X5_reasonAgainstLoading_30 rfl dX5_reasonAgainstLoading_92 ?_
                refine gx_callR C (k_X3_sizesInKiln l hW hN ) (isWS_in hW 2 (Nat.le_of_ble_eq_true rfl)) (isWS_2 hW) rfl (cwV 0 C.2.2.2.2.1 gX5_reasonAgainstLoading_X3_sizesInKiln rfl rfl rfl kdV_X3_sizesInKiln ⟨Nat.le_of_ble_eq_true rfl, Nat.le_of_ble_eq_true rfl⟩) rfl rfl (Nat.le_of_ble_eq_true rfl) ⟨Nat.le_of_ble_eq_true rfl, Nat.le_of_ble_eq_true rfl⟩ dX5_reasonAgainstLoading_95 ?_
                refine gx_aload_n (q := 1) C dX5_reasonAgainstLoading_98 rfl ?_
                refine gx_get C (i := 2) (isWS_in hW 0 (Nat.le_of_ble_eq_true rfl)) (isWS_0 hW) rfl in_X5_reasonAgainstLoading_5 (by decide) fl_X5_reasonAgainstLoading_30 rfl dX5_reasonAgainstLoading_99 ?_
                refine gx_getN C (i := 1) (isWS_in hW 2 (Nat.le_of_ble_eq_true rfl)) (isWS_2 hW) rfl in_X5_reasonAgainstLoading_3 (by decide) (by decide +kernel) rfl dX5_reasonAgainstLoading_102 ?_
                refine gx_iload_n (q := 2) C dX5_reasonAgainstLoading_105 rfl ?_
                refine gx_callR C (kw_X4_at l hW 3 (Nat.le_of_ble_eq_true rfl) 20 rfl _) (isWS_in hW 9 (Nat.le_of_ble_eq_true rfl)) (isWS_row hW 3 (Nat.le_of_ble_eq_true rfl)) rfl (cwV 1 C.2.2.2.2.1 gX5_reasonAgainstLoading_X4_at rfl rfl rfl kdV_X4_at ⟨Nat.le_of_ble_eq_true rfl, Nat.le_of_ble_eq_true rfl⟩) rfl rfl (Nat.le_of_ble_eq_true rfl) ⟨Nat.le_of_ble_eq_true rfl, Nat.le_of_ble_eq_true rfl⟩ dX5_reasonAgainstLoading_106 ?_
                refine gx_iadd C dX5_reasonAgainstLoading_109 ?_
                refine gx_aload_n (q := 1) C dX5_reasonAgainstLoading_110 rfl ?_
                refine gx_get C (i := 0) (isWS_in hW 0 (Nat.le_of_ble_eq_true rfl)) (isWS_0 hW) rfl in_X5_reasonAgainstLoading_5 (by decide) fl_X5_reasonAgainstLoading_14 rfl dX5_reasonAgainstLoading_111 ?_
                refine gx_iconst (v := 1) C dX5_reasonAgainstLoading_114 (by decide) ?_
                refine gx_callR C (kw_X4_at l hW 0 (Nat.le_of_ble_eq_true rfl) 4 rfl _) (isWS_in hW 3 (Nat.le_of_ble_eq_true rfl)) (isWS_row hW 0 (Nat.le_of_ble_eq_true rfl)) rfl (cwV 1 C.2.2.2.2.1 gX5_reasonAgainstLoading_X4_at rfl rfl rfl kdV_X4_at ⟨Nat.le_of_ble_eq_true rfl, Nat.le_of_ble_eq_true rfl⟩) rfl rfl (Nat.le_of_ble_eq_true rfl) ⟨Nat.le_of_ble_eq_true rfl, Nat.le_of_ble_eq_true rfl⟩ dX5_reasonAgainstLoading_115 ?_
                refine gx_icmp_le (tgt := 125) C dX5_reasonAgainstLoading_118 (by decide) (fun c_118 => ?_) (fun c_118 => ?_)
                · skip
                  refine gx_iconst (v := 0) C dX5_reasonAgainstLoading_125 (by decide) ?_
                  exact gx_iretR C rfl hr dX5_reasonAgainstLoading_126 (congrArg Value.int ((if_pos h_8).trans ((if_pos h_21).trans ((if_neg (bF h_37)).trans ((if_pos h_49).trans ((if_pos h_55).trans ((if_pos c_63).trans ((if_neg (bF h_86)).trans ((if_pos c_118).trans (rfl))))))))).symm)
                · skip
                  refine gx_iconst (v := 5) C dX5_reasonAgainstLoading_121 (by decide) ?_
                  refine gx_goto (tgt := 126) C dX5_reasonAgainstLoading_122 (by decide) ?_
                  exact gx_iretR C rfl hr dX5_reasonAgainstLoading_126 (congrArg Value.int ((if_pos h_8).trans ((if_pos h_21).trans ((if_neg (bF h_37)).trans ((if_pos h_49).trans ((if_pos h_55).trans ((if_pos c_63).trans ((if_neg (bF h_86)).trans ((if_neg c_118).trans (rfl))))))))).symm)
              · skip
                have h_86 := bI1.mp c_86
                refine gx_iconst (v := 4) C dX5_reasonAgainstLoading_89 (by decide) ?_
                exact gx_iretR C rfl hr dX5_reasonAgainstLoading_90 (congrArg Value.int ((if_pos h_8).trans ((if_pos h_21).trans ((if_neg (bF h_37)).trans ((if_pos h_49).trans ((if_pos h_55).trans ((if_pos c_63).trans ((if_pos h_86).trans (rfl)))))))).symm)
            · skip
              refine gx_iconst (v := 3) C dX5_reasonAgainstLoading_66 (by decide) ?_
              exact gx_iretR C rfl hr dX5_reasonAgainstLoading_67 (congrArg Value.int ((if_pos h_8).trans ((if_pos h_21).trans ((if_neg (bF h_37)).trans ((if_pos h_49).trans ((if_pos h_55).trans ((if_neg c_63).trans (rfl))))))).symm)
        · skip
          have h_49 := bI0.mp c_49
          refine gx_iconst (v := 2) C dX5_reasonAgainstLoading_52 (by decide) ?_
          exact gx_iretR C rfl hr dX5_reasonAgainstLoading_53 (congrArg Value.int ((if_pos h_8).trans ((if_pos h_21).trans ((if_neg (bF h_37)).trans ((if_neg (bF h_49)).trans (rfl))))).symm)
    · skip
      have h_21 := bI0.mp c_21
      refine gx_iconst (v := 1) C dX5_reasonAgainstLoading_24 (by decide) ?_
      exact gx_iretR C rfl hr dX5_reasonAgainstLoading_25 (congrArg Value.int ((if_pos h_8).trans ((if_neg (bF h_21)).trans (rfl))).symm)
  · skip
    have h_8 := bI0.mp c_8
    refine gx_iconst (v := (-1)) C dX5_reasonAgainstLoading_11 (by decide) ?_
    exact gx_iretR C rfl hr dX5_reasonAgainstLoading_12 (congrArg Value.int ((if_neg (bF h_8)).trans (rfl)).symm)
theorem kdN_X5_moveIntoKiln : yX5_moveIntoKiln.cls ≠ "java/lang/invoke/MethodHandle" ∧ yX5_moveIntoKiln.cls ≠ "java/lang/invoke/VarHandle" ∧ (parseMethodDescriptor yX5_moveIntoKiln.desc).map (fun d => d.parameters.length) = some 1 := by decide +kernel
theorem kdV_X5_moveIntoKiln : yX5_moveIntoKiln.cls = RX5 ∧ yX5_moveIntoKiln.cls ≠ "java/lang/invoke/MethodHandle" ∧ yX5_moveIntoKiln.cls ≠ "java/lang/invoke/VarHandle" ∧ (parseMethodDescriptor yX5_moveIntoKiln.desc).map (fun d => d.parameters.length) = some 1 := ⟨rfl, kdN_X5_moveIntoKiln⟩
def vX5_moveIntoKiln (w : WS) (q : Int32) : Int32 := (if (vX5_reasonAgainstLoading w q) = 0 then (cSizes (wRow w 6 (rPut 20 (w.1 6) q 24))) else (if (vX5_reasonAgainstLoading w q) = (-1) then (-1) else (-5)))
def wX5_moveIntoKiln (w : WS) (q : Int32) : WS := (if (vX5_reasonAgainstLoading w q) = 0 then (wRow w 6 (rPut 20 (w.1 6) q 24)) else (if (vX5_reasonAgainstLoading w q) = (-1) then w else w))
theorem in_X5_moveIntoKiln_5 : ∀ w ∈ u_ws RX5 TX5 8, w ∈ wsX5_moveIntoKiln := by decide +kernel
theorem fl_X5_moveIntoKiln_30 : Cond.fieldLink RX5 30 (TX5 2).1 (TX5 2).2.1 (TX5 2).2.2.1 ∈ wsX5_moveIntoKiln := by decide +kernel
theorem in_X5_moveIntoKiln_3 : ∀ w ∈ u_ws RX3 TX3 9, w ∈ wsX5_moveIntoKiln := by decide +kernel
abbrev rmX5_moveIntoKiln : Room := { frames := 4, cells := 0, slots := 0, locals := 88 }
set_option maxHeartbeats 4000000 in
set_option maxRecDepth 100000 in
theorem k_X5_moveIntoKiln (l : Launch) {k : gK} {L : List Nat} {f : Nat → va_E} (hL : L.Nodup) {a : Nat → Nat} {w : WS} (hW : isWS k L f a w) (hN : wOK w) (q : Int32) : kM l k L f yX5_moveIntoKiln wsX5_moveIntoKiln rmX5_moveIntoKiln [.ref (a 0), .int q] (wP k L a f (some (.int (vX5_moveIntoKiln w q))) (wX5_moveIntoKiln w q)) := by
  refine kM_of (cc := cX5_moveIntoKiln) (maxL := 3) (ret := (some .int)) (by decide) rfl (Nat.le_of_ble_eq_true rfl) ?_
  intro p e s m args below meth c C hr
  have hD : gD (fun q => q ∈ L) L := ⟨hL, fun _ h => h⟩
  refine gx_lv [(0, _), (1, _)] [0, 1] rfl ?_
  refine gx_aload_n (q := 0) C dX5_moveIntoKiln_0 rfl ?_
  refine gx_iload_n (q := 1) C dX5_moveIntoKiln_1 rfl ?_
  refine gx_callR C (k_X5_reasonAgainstLoading l hW hN _) (isWS_in hW 0 (Nat.le_of_ble_eq_true rfl)) (isWS_0 hW) rfl (cwV 1 C.2.2.2.2.1 gX5_moveIntoKiln_X5_reasonAgainstLoading rfl rfl rfl kdV_X5_reasonAgainstLoading ⟨Nat.le_of_ble_eq_true rfl, Nat.le_of_ble_eq_true rfl⟩) rfl rfl (Nat.le_of_ble_eq_true rfl) ⟨Nat.le_of_ble_eq_true rfl, Nat.le_of_ble_eq_true rfl⟩ dX5_moveIntoKiln_2 ?_
  refine gx_istore_n C (i := 2) [(2, _), (0, _), (1, _)] dX5_moveIntoKiln_5 rfl (by decide) rfl ?_
  refine gx_iload_n (q := 0) C dX5_moveIntoKiln_6 rfl ?_
  refine gx_if_eq (tgt := 22) C dX5_moveIntoKiln_7 (by decide) (fun c_7 => ?_) (fun c_7 => ?_)
  · skip
    refine gx_aload_n (q := 1) C dX5_moveIntoKiln_22 rfl ?_
    refine gx_get C (i := 2) (isWS_in hW 0 (Nat.le_of_ble_eq_true rfl)) (isWS_0 hW) rfl in_X5_moveIntoKiln_5 (by decide) fl_X5_moveIntoKiln_30 rfl dX5_moveIntoKiln_23 ?_
    refine gx_getN C (i := 4) (isWS_in hW 2 (Nat.le_of_ble_eq_true rfl)) (isWS_2 hW) rfl in_X5_moveIntoKiln_3 (by decide) (by decide +kernel) rfl dX5_moveIntoKiln_26 ?_
    refine gx_iload_n (q := 2) C dX5_moveIntoKiln_29 rfl ?_
    refine gx_bipush (v := 24) C dX5_moveIntoKiln_30 (by decide) ?_
    refine gx_callWv C hD (gFr_rf (f := f)) (kw_X4_write l hL hW 6 (Nat.le_of_ble_eq_true rfl) 20 rfl _ _) (isWS_in hW 15 (Nat.le_of_ble_eq_true rfl)) (isWS_row hW 6 (Nat.le_of_ble_eq_true rfl)) rfl (cwV 2 C.2.2.2.2.1 gX5_moveIntoKiln_X4_write rfl rfl rfl kdV_X4_write ⟨Nat.le_of_ble_eq_true rfl, Nat.le_of_ble_eq_true rfl⟩) rfl rfl (Nat.le_of_ble_eq_true rfl) ⟨Nat.le_of_ble_eq_true rfl, Nat.le_of_ble_eq_true rfl⟩ dX5_moveIntoKiln_32 (fun f_1 hW_1 hF_1 => ?_)
    refine gx_aload_n (q := 1) C dX5_moveIntoKiln_35 rfl ?_
    refine gx_get C (i := 2) (isWS_in hW_1 0 (Nat.le_of_ble_eq_true rfl)) (isWS_0 hW_1) rfl in_X5_moveIntoKiln_5 (by decide) fl_X5_moveIntoKiln_30 rfl dX5_moveIntoKiln_36 ?_
    refine gx_callR C (k_X3_sizesInKiln l hW_1 hN ) (isWS_in hW_1 2 (Nat.le_of_ble_eq_true rfl)) (isWS_2 hW_1) rfl (cwV 0 C.2.2.2.2.1 gX5_moveIntoKiln_X3_sizesInKiln rfl rfl rfl kdV_X3_sizesInKiln ⟨Nat.le_of_ble_eq_true rfl, Nat.le_of_ble_eq_true rfl⟩) rfl rfl (Nat.le_of_ble_eq_true rfl) ⟨Nat.le_of_ble_eq_true rfl, Nat.le_of_ble_eq_true rfl⟩ dX5_moveIntoKiln_39 ?_
    exact gx_iretW C hr hW_1 hF_1 dX5_moveIntoKiln_42 ((if_pos c_7).trans (rfl)).symm ((if_pos c_7).trans (rfl)).symm
  · skip
    refine gx_iload_n (q := 0) C dX5_moveIntoKiln_10 rfl ?_
    refine gx_iconst (v := (-1)) C dX5_moveIntoKiln_11 (by decide) ?_
    refine gx_icmp_ne (tgt := 19) C dX5_moveIntoKiln_12 (by decide) (fun c_12 => ?_) (fun c_12 => ?_)
    · skip
      refine gx_bipush (v := (-5)) C dX5_moveIntoKiln_19 (by decide) ?_
      exact gx_iretW C hr hW (gFr_rf (f := f)) dX5_moveIntoKiln_21 ((if_neg c_7).trans ((if_neg c_12).trans (rfl))).symm ((if_neg c_7).trans ((if_neg c_12).trans (rfl))).symm
    · skip
      refine gx_iconst (v := (-1)) C dX5_moveIntoKiln_15 (by decide) ?_
      refine gx_goto (tgt := 21) C dX5_moveIntoKiln_16 (by decide) ?_
      exact gx_iretW C hr hW (gFr_rf (f := f)) dX5_moveIntoKiln_21 ((if_neg c_7).trans ((if_pos c_12).trans (rfl))).symm ((if_neg c_7).trans ((if_pos c_12).trans (rfl))).symm
theorem kdN_X5_moveOutOfKiln : yX5_moveOutOfKiln.cls ≠ "java/lang/invoke/MethodHandle" ∧ yX5_moveOutOfKiln.cls ≠ "java/lang/invoke/VarHandle" ∧ (parseMethodDescriptor yX5_moveOutOfKiln.desc).map (fun d => d.parameters.length) = some 1 := by decide +kernel
theorem kdV_X5_moveOutOfKiln : yX5_moveOutOfKiln.cls = RX5 ∧ yX5_moveOutOfKiln.cls ≠ "java/lang/invoke/MethodHandle" ∧ yX5_moveOutOfKiln.cls ≠ "java/lang/invoke/VarHandle" ∧ (parseMethodDescriptor yX5_moveOutOfKiln.desc).map (fun d => d.parameters.length) = some 1 := ⟨rfl, kdN_X5_moveOutOfKiln⟩
def vX5_moveOutOfKiln (w : WS) (q : Int32) : Int32 := (if (cHas w q) = true then (if (cKiln w q) = true then (if (cFree w) = 0 then (-4) else ((rAt 20 ((cPutRack w q).1 6) q) / 8)) else (-5)) else (-1))
def wX5_moveOutOfKiln (w : WS) (q : Int32) : WS := (if (cHas w q) = true then (if (cKiln w q) = true then (if (cFree w) = 0 then w else (cPutRack w q)) else w) else w)
theorem in_X5_moveOutOfKiln_5 : ∀ w ∈ u_ws RX5 TX5 8, w ∈ wsX5_moveOutOfKiln := by decide +kernel
theorem fl_X5_moveOutOfKiln_30 : Cond.fieldLink RX5 30 (TX5 2).1 (TX5 2).2.1 (TX5 2).2.2.1 ∈ wsX5_moveOutOfKiln := by decide +kernel
theorem in_X5_moveOutOfKiln_3 : ∀ w ∈ u_ws RX3 TX3 9, w ∈ wsX5_moveOutOfKiln := by decide +kernel
abbrev rmX5_moveOutOfKiln : Room := { frames := 3, cells := 0, slots := 0, locals := 67 }
set_option maxHeartbeats 4000000 in
set_option maxRecDepth 100000 in
theorem k_X5_moveOutOfKiln (l : Launch) {k : gK} {L : List Nat} {f : Nat → va_E} (hL : L.Nodup) {a : Nat → Nat} {w : WS} (hW : isWS k L f a w) (hN : wOK w) (q : Int32) : kM l k L f yX5_moveOutOfKiln wsX5_moveOutOfKiln rmX5_moveOutOfKiln [.ref (a 0), .int q] (wP k L a f (some (.int (vX5_moveOutOfKiln w q))) (wX5_moveOutOfKiln w q)) := by
  refine kM_of (cc := cX5_moveOutOfKiln) (maxL := 2) (ret := (some .int)) (by decide) rfl (Nat.le_of_ble_eq_true rfl) ?_
  intro p e s m args below meth c C hr
  have hD : gD (fun q => q ∈ L) L := ⟨hL, fun _ h => h⟩
  refine gx_lv [(0, _), (1, _)] [0, 1] rfl ?_
  refine gx_aload_n (q := 0) C dX5_moveOutOfKiln_0 rfl ?_
  refine gx_get C (i := 2) (isWS_in hW 0 (Nat.le_of_ble_eq_true rfl)) (isWS_0 hW) rfl in_X5_moveOutOfKiln_5 (by decide) fl_X5_moveOutOfKiln_30 rfl dX5_moveOutOfKiln_1 ?_
  refine gx_iload_n (q := 1) C dX5_moveOutOfKiln_4 rfl ?_
  refine gx_callR C (k_X3_has l hW _) (isWS_in hW 2 (Nat.le_of_ble_eq_true rfl)) (isWS_2 hW) rfl (cwV 1 C.2.2.2.2.1 gX5_moveOutOfKiln_X3_has rfl rfl rfl kdV_X3_has ⟨Nat.le_of_ble_eq_true rfl, Nat.le_of_ble_eq_true rfl⟩) rfl rfl (Nat.le_of_ble_eq_true rfl) ⟨Nat.le_of_ble_eq_true rfl, Nat.le_of_ble_eq_true rfl⟩ dX5_moveOutOfKiln_5 ?_
  refine gx_if_ne (tgt := 13) C dX5_moveOutOfKiln_8 (by decide) (fun c_8 => ?_) (fun c_8 => ?_)
  · skip
    have h_8 := bI1.mp c_8
    refine gx_aload_n (q := 0) C dX5_moveOutOfKiln_13 rfl ?_
    refine gx_get C (i := 2) (isWS_in hW 0 (Nat.le_of_ble_eq_true rfl)) (isWS_0 hW) rfl in_X5_moveOutOfKiln_5 (by decide) fl_X5_moveOutOfKiln_30 rfl dX5_moveOutOfKiln_14 ?_
    refine gx_iload_n (q := 1) C dX5_moveOutOfKiln_17 rfl ?_
    refine gx_callR C (k_X3_isInKiln l hW _) (isWS_in hW 2 (Nat.le_of_ble_eq_true rfl)) (isWS_2 hW) rfl (cwV 1 C.2.2.2.2.1 gX5_moveOutOfKiln_X3_isInKiln rfl rfl rfl kdV_X3_isInKiln ⟨Nat.le_of_ble_eq_true rfl, Nat.le_of_ble_eq_true rfl⟩) rfl rfl (Nat.le_of_ble_eq_true rfl) ⟨Nat.le_of_ble_eq_true rfl, Nat.le_of_ble_eq_true rfl⟩ dX5_moveOutOfKiln_18 ?_
    refine gx_if_ne (tgt := 27) C dX5_moveOutOfKiln_21 (by decide) (fun c_21 => ?_) (fun c_21 => ?_)
    · skip
      have h_21 := bI1.mp c_21
      refine gx_aload_n (q := 0) C dX5_moveOutOfKiln_27 rfl ?_
      refine gx_get C (i := 2) (isWS_in hW 0 (Nat.le_of_ble_eq_true rfl)) (isWS_0 hW) rfl in_X5_moveOutOfKiln_5 (by decide) fl_X5_moveOutOfKiln_30 rfl dX5_moveOutOfKiln_28 ?_
      refine gx_callR C (k_X3_freePlaces l hW hN ) (isWS_in hW 2 (Nat.le_of_ble_eq_true rfl)) (isWS_2 hW) rfl (cwV 0 C.2.2.2.2.1 gX5_moveOutOfKiln_X3_freePlaces rfl rfl rfl kdV_X3_freePlaces ⟨Nat.le_of_ble_eq_true rfl, Nat.le_of_ble_eq_true rfl⟩) rfl rfl (Nat.le_of_ble_eq_true rfl) ⟨Nat.le_of_ble_eq_true rfl, Nat.le_of_ble_eq_true rfl⟩ dX5_moveOutOfKiln_31 ?_
      refine gx_if_ne (tgt := 40) C dX5_moveOutOfKiln_34 (by decide) (fun c_34 => ?_) (fun c_34 => ?_)
      · skip
        refine gx_aload_n (q := 0) C dX5_moveOutOfKiln_40 rfl ?_
        refine gx_get C (i := 2) (isWS_in hW 0 (Nat.le_of_ble_eq_true rfl)) (isWS_0 hW) rfl in_X5_moveOutOfKiln_5 (by decide) fl_X5_moveOutOfKiln_30 rfl dX5_moveOutOfKiln_41 ?_
        refine gx_iload_n (q := 1) C dX5_moveOutOfKiln_44 rfl ?_
        refine gx_callWv C hD (gFr_rf (f := f)) (k_X3_putOnRack l hL hW hN _) (isWS_in hW 2 (Nat.le_of_ble_eq_true rfl)) (isWS_2 hW) rfl (cwV 1 C.2.2.2.2.1 gX5_moveOutOfKiln_X3_putOnRack rfl rfl rfl kdV_X3_putOnRack ⟨Nat.le_of_ble_eq_true rfl, Nat.le_of_ble_eq_true rfl⟩) rfl rfl (Nat.le_of_ble_eq_true rfl) ⟨Nat.le_of_ble_eq_true rfl, Nat.le_of_ble_eq_true rfl⟩ dX5_moveOutOfKiln_45 (fun f_1 hW_1 hF_1 => ?_)
        refine gx_aload_n (q := 0) C dX5_moveOutOfKiln_48 rfl ?_
        refine gx_get C (i := 2) (isWS_in hW_1 0 (Nat.le_of_ble_eq_true rfl)) (isWS_0 hW_1) rfl in_X5_moveOutOfKiln_5 (by decide) fl_X5_moveOutOfKiln_30 rfl dX5_moveOutOfKiln_49 ?_
        refine gx_getN C (i := 4) (isWS_in hW_1 2 (Nat.le_of_ble_eq_true rfl)) (isWS_2 hW_1) rfl in_X5_moveOutOfKiln_3 (by decide) (by decide +kernel) rfl dX5_moveOutOfKiln_52 ?_
        refine gx_iload_n (q := 1) C dX5_moveOutOfKiln_55 rfl ?_
        refine gx_callR C (kw_X4_at l hW_1 6 (Nat.le_of_ble_eq_true rfl) 20 rfl _) (isWS_in hW_1 15 (Nat.le_of_ble_eq_true rfl)) (isWS_row hW_1 6 (Nat.le_of_ble_eq_true rfl)) rfl (cwV 1 C.2.2.2.2.1 gX5_moveOutOfKiln_X4_at rfl rfl rfl kdV_X4_at ⟨Nat.le_of_ble_eq_true rfl, Nat.le_of_ble_eq_true rfl⟩) rfl rfl (Nat.le_of_ble_eq_true rfl) ⟨Nat.le_of_ble_eq_true rfl, Nat.le_of_ble_eq_true rfl⟩ dX5_moveOutOfKiln_56 ?_
        refine gx_bipush (v := 8) C dX5_moveOutOfKiln_59 (by decide) ?_
        refine gx_idiv C (by decide) dX5_moveOutOfKiln_61 ?_
        exact gx_iretW C hr hW_1 hF_1 dX5_moveOutOfKiln_62 ((if_pos h_8).trans ((if_pos h_21).trans ((if_neg c_34).trans (rfl)))).symm ((if_pos h_8).trans ((if_pos h_21).trans ((if_neg c_34).trans (rfl)))).symm
      · skip
        refine gx_bipush (v := (-4)) C dX5_moveOutOfKiln_37 (by decide) ?_
        exact gx_iretW C hr hW (gFr_rf (f := f)) dX5_moveOutOfKiln_39 ((if_pos h_8).trans ((if_pos h_21).trans ((if_pos c_34).trans (rfl)))).symm ((if_pos h_8).trans ((if_pos h_21).trans ((if_pos c_34).trans (rfl)))).symm
    · skip
      have h_21 := bI0.mp c_21
      refine gx_bipush (v := (-5)) C dX5_moveOutOfKiln_24 (by decide) ?_
      exact gx_iretW C hr hW (gFr_rf (f := f)) dX5_moveOutOfKiln_26 ((if_pos h_8).trans ((if_neg (bF h_21)).trans (rfl))).symm ((if_pos h_8).trans ((if_neg (bF h_21)).trans (rfl))).symm
  · skip
    have h_8 := bI0.mp c_8
    refine gx_iconst (v := (-1)) C dX5_moveOutOfKiln_11 (by decide) ?_
    exact gx_iretW C hr hW (gFr_rf (f := f)) dX5_moveOutOfKiln_12 ((if_neg (bF h_8)).trans (rfl)).symm ((if_neg (bF h_8)).trans (rfl)).symm
theorem kdN_X5_firePot : yX5_firePot.cls ≠ "java/lang/invoke/MethodHandle" ∧ yX5_firePot.cls ≠ "java/lang/invoke/VarHandle" ∧ (parseMethodDescriptor yX5_firePot.desc).map (fun d => d.parameters.length) = some 2 := by decide +kernel
theorem kdV_X5_firePot : yX5_firePot.cls = RX5 ∧ yX5_firePot.cls ≠ "java/lang/invoke/MethodHandle" ∧ yX5_firePot.cls ≠ "java/lang/invoke/VarHandle" ∧ (parseMethodDescriptor yX5_firePot.desc).map (fun d => d.parameters.length) = some 2 := ⟨rfl, kdN_X5_firePot⟩
def wX5_firePot (w : WS) (q : Int32) (heat : Int32) : WS := (if (cKind (wRow (wRow w 5 (rPut 20 (w.1 5) q (cFired w q heat (rAt 4 (w.1 0) 2)))) 9 (rPut 20 ((wRow w 5 (rPut 20 (w.1 5) q (cFired w q heat (rAt 4 (w.1 0) 2)))).1 9) q (rAt 20 ((wRow w 5 (rPut 20 (w.1 5) q (cFired w q heat (rAt 4 (w.1 0) 2)))).1 9) q + 1))) q 4) = true then (wRow (wRow (wRow w 5 (rPut 20 (w.1 5) q (cFired w q heat (rAt 4 (w.1 0) 2)))) 9 (rPut 20 ((wRow w 5 (rPut 20 (w.1 5) q (cFired w q heat (rAt 4 (w.1 0) 2)))).1 9) q (rAt 20 ((wRow w 5 (rPut 20 (w.1 5) q (cFired w q heat (rAt 4 (w.1 0) 2)))).1 9) q + 1))) 6 (rPut 20 ((wRow (wRow w 5 (rPut 20 (w.1 5) q (cFired w q heat (rAt 4 (w.1 0) 2)))) 9 (rPut 20 ((wRow w 5 (rPut 20 (w.1 5) q (cFired w q heat (rAt 4 (w.1 0) 2)))).1 9) q (rAt 20 ((wRow w 5 (rPut 20 (w.1 5) q (cFired w q heat (rAt 4 (w.1 0) 2)))).1 9) q + 1))).1 6) q 25)) else (cPutRack (wRow (wRow w 5 (rPut 20 (w.1 5) q (cFired w q heat (rAt 4 (w.1 0) 2)))) 9 (rPut 20 ((wRow w 5 (rPut 20 (w.1 5) q (cFired w q heat (rAt 4 (w.1 0) 2)))).1 9) q (rAt 20 ((wRow w 5 (rPut 20 (w.1 5) q (cFired w q heat (rAt 4 (w.1 0) 2)))).1 9) q + 1))) q))
theorem in_X5_firePot_5 : ∀ w ∈ u_ws RX5 TX5 8, w ∈ wsX5_firePot := by decide +kernel
theorem fl_X5_firePot_30 : Cond.fieldLink RX5 30 (TX5 2).1 (TX5 2).2.1 (TX5 2).2.2.1 ∈ wsX5_firePot := by decide +kernel
theorem in_X5_firePot_3 : ∀ w ∈ u_ws RX3 TX3 9, w ∈ wsX5_firePot := by decide +kernel
theorem fl_X5_firePot_14 : Cond.fieldLink RX5 14 (TX5 0).1 (TX5 0).2.1 (TX5 0).2.2.1 ∈ wsX5_firePot := by decide +kernel
abbrev rmX5_firePot : Room := { frames := 3, cells := 0, slots := 0, locals := 67 }
set_option maxHeartbeats 4000000 in
set_option maxRecDepth 100000 in
theorem k_X5_firePot (l : Launch) {k : gK} {L : List Nat} {f : Nat → va_E} (hL : L.Nodup) {a : Nat → Nat} {w : WS} (hW : isWS k L f a w) (hN : wOK w) (q : Int32) (heat : Int32) : kM l k L f yX5_firePot wsX5_firePot rmX5_firePot [.ref (a 0), .int q, .int heat] (wP k L a f none (wX5_firePot w q heat)) := by
  refine kM_of (cc := cX5_firePot) (maxL := 3) (ret := none) (by decide) rfl (Nat.le_of_ble_eq_true rfl) ?_
  intro p e s m args below meth c C hr
  have hD : gD (fun q => q ∈ L) L := ⟨hL, fun _ h => h⟩
  refine gx_lv [(0, _), (1, _), (2, _)] [0, 1, 2] rfl ?_
  refine gx_aload_n (q := 0) C dX5_firePot_0 rfl ?_
  refine gx_get C (i := 2) (isWS_in hW 0 (Nat.le_of_ble_eq_true rfl)) (isWS_0 hW) rfl in_X5_firePot_5 (by decide) fl_X5_firePot_30 rfl dX5_firePot_1 ?_
  refine gx_getN C (i := 3) (isWS_in hW 2 (Nat.le_of_ble_eq_true rfl)) (isWS_2 hW) rfl in_X5_firePot_3 (by decide) (by decide +kernel) rfl dX5_firePot_4 ?_
  refine gx_iload_n (q := 1) C dX5_firePot_7 rfl ?_
  refine gx_aload_n (q := 0) C dX5_firePot_8 rfl ?_
  refine gx_get C (i := 2) (isWS_in hW 0 (Nat.le_of_ble_eq_true rfl)) (isWS_0 hW) rfl in_X5_firePot_5 (by decide) fl_X5_firePot_30 rfl dX5_firePot_9 ?_
  refine gx_iload_n (q := 1) C dX5_firePot_12 rfl ?_
  refine gx_iload_n (q := 2) C dX5_firePot_13 rfl ?_
  refine gx_aload_n (q := 0) C dX5_firePot_14 rfl ?_
  refine gx_get C (i := 0) (isWS_in hW 0 (Nat.le_of_ble_eq_true rfl)) (isWS_0 hW) rfl in_X5_firePot_5 (by decide) fl_X5_firePot_14 rfl dX5_firePot_15 ?_
  refine gx_iconst (v := 2) C dX5_firePot_18 (by decide) ?_
  refine gx_callR C (kw_X4_at l hW 0 (Nat.le_of_ble_eq_true rfl) 4 rfl _) (isWS_in hW 3 (Nat.le_of_ble_eq_true rfl)) (isWS_row hW 0 (Nat.le_of_ble_eq_true rfl)) rfl (cwV 1 C.2.2.2.2.1 gX5_firePot_X4_at rfl rfl rfl kdV_X4_at ⟨Nat.le_of_ble_eq_true rfl, Nat.le_of_ble_eq_true rfl⟩) rfl rfl (Nat.le_of_ble_eq_true rfl) ⟨Nat.le_of_ble_eq_true rfl, Nat.le_of_ble_eq_true rfl⟩ dX5_firePot_19 ?_
  refine gx_callR C (k_X3_kindFired l hW _ _ _) (isWS_in hW 2 (Nat.le_of_ble_eq_true rfl)) (isWS_2 hW) rfl (cwV 3 C.2.2.2.2.1 gX5_firePot_X3_kindFired rfl rfl rfl kdV_X3_kindFired ⟨Nat.le_of_ble_eq_true rfl, Nat.le_of_ble_eq_true rfl⟩) rfl rfl (Nat.le_of_ble_eq_true rfl) ⟨Nat.le_of_ble_eq_true rfl, Nat.le_of_ble_eq_true rfl⟩ dX5_firePot_22 ?_
  refine gx_callWv C hD (gFr_rf (f := f)) (kw_X4_write l hL hW 5 (Nat.le_of_ble_eq_true rfl) 20 rfl _ _) (isWS_in hW 13 (Nat.le_of_ble_eq_true rfl)) (isWS_row hW 5 (Nat.le_of_ble_eq_true rfl)) rfl (cwV 2 C.2.2.2.2.1 gX5_firePot_X4_write rfl rfl rfl kdV_X4_write ⟨Nat.le_of_ble_eq_true rfl, Nat.le_of_ble_eq_true rfl⟩) rfl rfl (Nat.le_of_ble_eq_true rfl) ⟨Nat.le_of_ble_eq_true rfl, Nat.le_of_ble_eq_true rfl⟩ dX5_firePot_25 (fun f_1 hW_1 hF_1 => ?_)
  refine gx_aload_n (q := 0) C dX5_firePot_28 rfl ?_
  refine gx_get C (i := 2) (isWS_in hW_1 0 (Nat.le_of_ble_eq_true rfl)) (isWS_0 hW_1) rfl in_X5_firePot_5 (by decide) fl_X5_firePot_30 rfl dX5_firePot_29 ?_
  refine gx_getN C (i := 7) (isWS_in hW_1 2 (Nat.le_of_ble_eq_true rfl)) (isWS_2 hW_1) rfl in_X5_firePot_3 (by decide) (by decide +kernel) rfl dX5_firePot_32 ?_
  refine gx_iload_n (q := 1) C dX5_firePot_35 rfl ?_
  refine gx_iconst (v := 1) C dX5_firePot_36 (by decide) ?_
  refine gx_callWv C hD hF_1 (kw_X4_add l hL hW_1 9 (Nat.le_of_ble_eq_true rfl) 20 rfl _ _) (isWS_in hW_1 21 (Nat.le_of_ble_eq_true rfl)) (isWS_row hW_1 9 (Nat.le_of_ble_eq_true rfl)) rfl (cwV 2 C.2.2.2.2.1 gX5_firePot_X4_add rfl rfl rfl kdV_X4_add ⟨Nat.le_of_ble_eq_true rfl, Nat.le_of_ble_eq_true rfl⟩) rfl rfl (Nat.le_of_ble_eq_true rfl) ⟨Nat.le_of_ble_eq_true rfl, Nat.le_of_ble_eq_true rfl⟩ dX5_firePot_37 (fun f_2 hW_2 hF_2 => ?_)
  refine gx_aload_n (q := 0) C dX5_firePot_40 rfl ?_
  refine gx_get C (i := 2) (isWS_in hW_2 0 (Nat.le_of_ble_eq_true rfl)) (isWS_0 hW_2) rfl in_X5_firePot_5 (by decide) fl_X5_firePot_30 rfl dX5_firePot_41 ?_
  refine gx_iload_n (q := 1) C dX5_firePot_44 rfl ?_
  refine gx_iconst (v := 4) C dX5_firePot_45 (by decide) ?_
  refine gx_callR C (k_X3_isKind l hW_2 _ _) (isWS_in hW_2 2 (Nat.le_of_ble_eq_true rfl)) (isWS_2 hW_2) rfl (cwV 2 C.2.2.2.2.1 gX5_firePot_X3_isKind rfl rfl rfl kdV_X3_isKind ⟨Nat.le_of_ble_eq_true rfl, Nat.le_of_ble_eq_true rfl⟩) rfl rfl (Nat.le_of_ble_eq_true rfl) ⟨Nat.le_of_ble_eq_true rfl, Nat.le_of_ble_eq_true rfl⟩ dX5_firePot_46 ?_
  refine gx_if_eq (tgt := 68) C dX5_firePot_49 (by decide) (fun c_49 => ?_) (fun c_49 => ?_)
  · skip
    have h_49 := bI0.mp c_49
    refine gx_aload_n (q := 0) C dX5_firePot_68 rfl ?_
    refine gx_get C (i := 2) (isWS_in hW_2 0 (Nat.le_of_ble_eq_true rfl)) (isWS_0 hW_2) rfl in_X5_firePot_5 (by decide) fl_X5_firePot_30 rfl dX5_firePot_69 ?_
    refine gx_iload_n (q := 1) C dX5_firePot_72 rfl ?_
    refine gx_callWv C hD hF_2 (k_X3_putOnRack l hL hW_2 hN _) (isWS_in hW_2 2 (Nat.le_of_ble_eq_true rfl)) (isWS_2 hW_2) rfl (cwV 1 C.2.2.2.2.1 gX5_firePot_X3_putOnRack rfl rfl rfl kdV_X3_putOnRack ⟨Nat.le_of_ble_eq_true rfl, Nat.le_of_ble_eq_true rfl⟩) rfl rfl (Nat.le_of_ble_eq_true rfl) ⟨Nat.le_of_ble_eq_true rfl, Nat.le_of_ble_eq_true rfl⟩ dX5_firePot_73 (fun f_3 hW_3 hF_3 => ?_)
    exact gx_vretW C hr hW_3 hF_3 dX5_firePot_76 ((if_neg (bF h_49)).trans (rfl)).symm
  · skip
    have h_49 := bI1.mp c_49
    refine gx_aload_n (q := 0) C dX5_firePot_52 rfl ?_
    refine gx_get C (i := 2) (isWS_in hW_2 0 (Nat.le_of_ble_eq_true rfl)) (isWS_0 hW_2) rfl in_X5_firePot_5 (by decide) fl_X5_firePot_30 rfl dX5_firePot_53 ?_
    refine gx_getN C (i := 4) (isWS_in hW_2 2 (Nat.le_of_ble_eq_true rfl)) (isWS_2 hW_2) rfl in_X5_firePot_3 (by decide) (by decide +kernel) rfl dX5_firePot_56 ?_
    refine gx_iload_n (q := 1) C dX5_firePot_59 rfl ?_
    refine gx_bipush (v := 25) C dX5_firePot_60 (by decide) ?_
    refine gx_callWv C hD hF_2 (kw_X4_write l hL hW_2 6 (Nat.le_of_ble_eq_true rfl) 20 rfl _ _) (isWS_in hW_2 15 (Nat.le_of_ble_eq_true rfl)) (isWS_row hW_2 6 (Nat.le_of_ble_eq_true rfl)) rfl (cwV 2 C.2.2.2.2.1 gX5_firePot_X4_write rfl rfl rfl kdV_X4_write ⟨Nat.le_of_ble_eq_true rfl, Nat.le_of_ble_eq_true rfl⟩) rfl rfl (Nat.le_of_ble_eq_true rfl) ⟨Nat.le_of_ble_eq_true rfl, Nat.le_of_ble_eq_true rfl⟩ dX5_firePot_62 (fun f_4 hW_4 hF_4 => ?_)
    refine gx_goto (tgt := 76) C dX5_firePot_65 (by decide) ?_
    exact gx_vretW C hr hW_4 hF_4 dX5_firePot_76 ((if_pos h_49).trans (rfl)).symm
theorem kdN_X5_firstFreeNight : yX5_firstFreeNight.cls ≠ "java/lang/invoke/MethodHandle" ∧ yX5_firstFreeNight.cls ≠ "java/lang/invoke/VarHandle" ∧ (parseMethodDescriptor yX5_firstFreeNight.desc).map (fun d => d.parameters.length) = some 2 := by decide +kernel
theorem kdV_X5_firstFreeNight : yX5_firstFreeNight.cls = RX5 ∧ yX5_firstFreeNight.cls ≠ "java/lang/invoke/MethodHandle" ∧ yX5_firstFreeNight.cls ≠ "java/lang/invoke/VarHandle" ∧ (parseMethodDescriptor yX5_firstFreeNight.desc).map (fun d => d.parameters.length) = some 2 := ⟨rfl, kdN_X5_firstFreeNight⟩
def cFFs (w : WS) (q what : Int32) : Nat → Nat → Int32
  | _, 0 => -6
  | i, n + 1 => if cLowest w (nI i) = -6 then cFFs w q what (i + 1) n else if cWheel w q (nI i) = -6 then (if what = 0 then w.2 0 + nI i else cLowest w (nI i)) else cFFs w q what (i + 1) n
def cFirst (w : WS) (q what : Int32) : Int32 := if vX5_hasPupil w q = true then (if what = 0 then cFFs w q what 0 21 else if what = 1 then cFFs w q what 0 21 else -2) else -1
theorem in_X5_firstFreeNight_5 : ∀ w ∈ u_ws RX5 TX5 8, w ∈ wsX5_firstFreeNight := by decide +kernel
theorem fl_X5_firstFreeNight_23 : Cond.fieldLink RX5 23 (TX5 1).1 (TX5 1).2.1 (TX5 1).2.2.1 ∈ wsX5_firstFreeNight := by decide +kernel
theorem in_X5_firstFreeNight_0 : ∀ w ∈ u_ws RX0 TX0 3, w ∈ wsX5_firstFreeNight := by decide +kernel
abbrev rmX5_firstFreeNight : Room := { frames := 3, cells := 0, slots := 0, locals := 68 }
set_option maxHeartbeats 4000000 in
set_option maxRecDepth 100000 in
theorem k_X5_firstFreeNight (l : Launch) {k : gK} {L : List Nat} {f : Nat → va_E} {a : Nat → Nat} {w : WS} (hW : isWS k L f a w) (q : Int32) (what : Int32) : kR l k L f yX5_firstFreeNight wsX5_firstFreeNight rmX5_firstFreeNight [.ref (a 0), .int q, .int what] (.int (cFirst w q what)) := by
  refine kR_of (cc := cX5_firstFreeNight) (maxL := 5) (ret := (some .int)) (by decide) rfl (Nat.le_of_ble_eq_true rfl) ?_
  intro p e s m args below meth c C hr
  refine gx_lv [(0, _), (1, _), (2, _)] [0, 1, 2] rfl ?_
  refine gx_aload_n (q := 0) C dX5_firstFreeNight_0 rfl ?_
  refine gx_iload_n (q := 1) C dX5_firstFreeNight_1 rfl ?_
  refine gx_callR C (k_X5_hasPupil l hW _) (isWS_in hW 0 (Nat.le_of_ble_eq_true rfl)) (isWS_0 hW) rfl (cwV 1 C.2.2.2.2.1 gX5_firstFreeNight_X5_hasPupil rfl rfl rfl kdV_X5_hasPupil ⟨Nat.le_of_ble_eq_true rfl, Nat.le_of_ble_eq_true rfl⟩) rfl rfl (Nat.le_of_ble_eq_true rfl) ⟨Nat.le_of_ble_eq_true rfl, Nat.le_of_ble_eq_true rfl⟩ dX5_firstFreeNight_2 ?_
  refine gx_if_ne (tgt := 10) C dX5_firstFreeNight_5 (by decide) (fun c_5 => ?_) (fun c_5 => ?_)
  · skip
    have h_5 := bI1.mp c_5
    refine gx_iload_n (q := 2) C dX5_firstFreeNight_10 rfl ?_
    refine gx_if_eq (tgt := 22) C dX5_firstFreeNight_11 (by decide) (fun c_11 => ?_) (fun c_11 => ?_)
    · skip
      refine gx_iconst (v := 0) C dX5_firstFreeNight_22 (by decide) ?_
      refine gx_istore_n C (i := 3) [(3, _), (0, _), (1, _), (2, _)] dX5_firstFreeNight_23 rfl (by decide) rfl ?_
      refine gx_loop (σ := Nat) (fun i => f) (fun i => [(0, .ref (a 0)), (1, .int q), (2, .int what), (3, .int (nI i))]) (fun i => i ≤ 21 ∧ cFFs w q what i (21 - i) = cFirst w q what) (fun i => 21 - i) 0 [1, 2, 3, 0] rfl rfl ?_ ?_
      · exact ⟨by decide, ((if_pos h_5).trans ((if_pos c_11).trans (rfl))).symm⟩
      intro i hI ih
      try dsimp only at hI ih ⊢
      refine gx_iload_n (q := 3) C dX5_firstFreeNight_24 rfl ?_
      refine gx_bipush (v := 20) C dX5_firstFreeNight_25 (by decide) ?_
      refine gx_icmp_gt (tgt := 86) C dX5_firstFreeNight_27 (by decide) (fun c_27 => ?_) (fun c_27 => ?_)
      · skip
        have hb : i = 21 := Nat.le_antisymm hI.1 (by have := (nI_ltI (a := 20) (b := i) (by decide) (by omega)).mp c_27; omega)
        refine gx_bipush (v := (-6)) C dX5_firstFreeNight_86 (by decide) ?_
        exact gx_iretR C rfl hr dX5_firstFreeNight_88 (congrArg Value.int (by rw [← hI.2, hb]; rfl))
      · skip
        have hlt : i < 21 := by have := Nat.le_of_not_lt (fun z => c_27 ((nI_ltI (a := 20) (b := i) (by decide) (by omega)).mpr z)); omega
        obtain ⟨n, hn⟩ : ∃ n, 21 - i = n + 1 := ⟨20 - i, by omega⟩
        have h2 := hI.2
        rw [hn] at h2
        refine gx_aload_n (q := 0) C dX5_firstFreeNight_30 rfl ?_
        refine gx_get C (i := 1) (isWS_in hW 0 (Nat.le_of_ble_eq_true rfl)) (isWS_0 hW) rfl in_X5_firstFreeNight_5 (by decide) fl_X5_firstFreeNight_23 rfl dX5_firstFreeNight_31 ?_
        refine gx_iload_n (q := 3) C dX5_firstFreeNight_34 rfl ?_
        refine gx_callR C (k_X0_lowestFreeWheel l hW _) (isWS_in hW 1 (Nat.le_of_ble_eq_true rfl)) (isWS_1 hW) rfl (cwV 1 C.2.2.2.2.1 gX5_firstFreeNight_X0_lowestFreeWheel rfl rfl rfl kdV_X0_lowestFreeWheel ⟨Nat.le_of_ble_eq_true rfl, Nat.le_of_ble_eq_true rfl⟩) rfl rfl (Nat.le_of_ble_eq_true rfl) ⟨Nat.le_of_ble_eq_true rfl, Nat.le_of_ble_eq_true rfl⟩ dX5_firstFreeNight_35 ?_
        refine gx_istore C [(4, _), (0, _), (1, _), (2, _), (3, _)] dX5_firstFreeNight_38 (by decide) rfl ?_
        refine gx_iload (q := 0) C dX5_firstFreeNight_40 rfl ?_
        refine gx_bipush (v := (-6)) C dX5_firstFreeNight_42 (by decide) ?_
        refine gx_icmp_eq (tgt := 80) C dX5_firstFreeNight_44 (by decide) (fun c_44 => ?_) (fun c_44 => ?_)
        · skip
          refine gx_iinc C (q := 4) (v := nI (i + 1)) [(3, _), (4, _), (0, _), (1, _), (2, _)] dX5_firstFreeNight_80 rfl (nI_inc i) (by decide) rfl ?_
          refine gx_goto (tgt := 24) C dX5_firstFreeNight_83 (by decide) ?_
          rw [show cFFs w q what i (n + 1) = cFFs w q what (i + 1) n from if_pos c_44] at h2
          exact gx_back [2, 3, 4, 0] (ih (i + 1) ⟨by omega, by rw [show 21 - (i + 1) = n by omega]; exact h2⟩ (by omega)) rfl (by rfl)
        · skip
          refine gx_aload_n (q := 1) C dX5_firstFreeNight_47 rfl ?_
          refine gx_get C (i := 1) (isWS_in hW 0 (Nat.le_of_ble_eq_true rfl)) (isWS_0 hW) rfl in_X5_firstFreeNight_5 (by decide) fl_X5_firstFreeNight_23 rfl dX5_firstFreeNight_48 ?_
          refine gx_iload_n (q := 2) C dX5_firstFreeNight_51 rfl ?_
          refine gx_iload_n (q := 4) C dX5_firstFreeNight_52 rfl ?_
          refine gx_callR C (k_X0_wheelOf l hW _ _) (isWS_in hW 1 (Nat.le_of_ble_eq_true rfl)) (isWS_1 hW) rfl (cwV 2 C.2.2.2.2.1 gX5_firstFreeNight_X0_wheelOf rfl rfl rfl kdV_X0_wheelOf ⟨Nat.le_of_ble_eq_true rfl, Nat.le_of_ble_eq_true rfl⟩) rfl rfl (Nat.le_of_ble_eq_true rfl) ⟨Nat.le_of_ble_eq_true rfl, Nat.le_of_ble_eq_true rfl⟩ dX5_firstFreeNight_53 ?_
          refine gx_bipush (v := (-6)) C dX5_firstFreeNight_56 (by decide) ?_
          refine gx_icmp_ne (tgt := 80) C dX5_firstFreeNight_58 (by decide) (fun c_58 => ?_) (fun c_58 => ?_)
          · skip
            refine gx_iinc C (q := 4) (v := nI (i + 1)) [(3, _), (4, _), (0, _), (1, _), (2, _)] dX5_firstFreeNight_80 rfl (nI_inc i) (by decide) rfl ?_
            refine gx_goto (tgt := 24) C dX5_firstFreeNight_83 (by decide) ?_
            rw [show cFFs w q what i (n + 1) = cFFs w q what (i + 1) n from (if_neg c_44).trans (if_neg c_58)] at h2
            exact gx_back [2, 3, 4, 0] (ih (i + 1) ⟨by omega, by rw [show 21 - (i + 1) = n by omega]; exact h2⟩ (by omega)) rfl (by rfl)
          · skip
            refine gx_iload_n (q := 3) C dX5_firstFreeNight_61 rfl ?_
            refine gx_if_ne (tgt := 77) C dX5_firstFreeNight_62 (by decide) (fun c_62 => ?_) (fun c_62 => ?_)
            · skip
              refine gx_iload (q := 0) C dX5_firstFreeNight_77 rfl ?_
              exact gx_iretR C rfl hr dX5_firstFreeNight_79 (congrArg Value.int (by rw [← h2]; exact ((if_neg c_44).trans ((if_pos c_58).trans (if_neg c_62))).symm))
            · skip
              refine gx_aload_n (q := 1) C dX5_firstFreeNight_65 rfl ?_
              refine gx_get C (i := 1) (isWS_in hW 0 (Nat.le_of_ble_eq_true rfl)) (isWS_0 hW) rfl in_X5_firstFreeNight_5 (by decide) fl_X5_firstFreeNight_23 rfl dX5_firstFreeNight_66 ?_
              refine gx_getN C (i := 1) (isWS_in hW 1 (Nat.le_of_ble_eq_true rfl)) (isWS_1 hW) rfl in_X5_firstFreeNight_0 (by decide) (by decide +kernel) rfl dX5_firstFreeNight_69 ?_
              refine gx_iload_n (q := 4) C dX5_firstFreeNight_72 rfl ?_
              refine gx_iadd C dX5_firstFreeNight_73 ?_
              refine gx_goto (tgt := 79) C dX5_firstFreeNight_74 (by decide) ?_
              exact gx_iretR C rfl hr dX5_firstFreeNight_79 (congrArg Value.int (by rw [← h2]; exact ((if_neg c_44).trans ((if_pos c_58).trans (if_pos c_62))).symm))
    · skip
      refine gx_iload_n (q := 2) C dX5_firstFreeNight_14 rfl ?_
      refine gx_iconst (v := 1) C dX5_firstFreeNight_15 (by decide) ?_
      refine gx_icmp_eq (tgt := 22) C dX5_firstFreeNight_16 (by decide) (fun c_16 => ?_) (fun c_16 => ?_)
      · skip
        refine gx_iconst (v := 0) C dX5_firstFreeNight_22 (by decide) ?_
        refine gx_istore_n C (i := 3) [(3, _), (0, _), (1, _), (2, _)] dX5_firstFreeNight_23 rfl (by decide) rfl ?_
        refine gx_loop (σ := Nat) (fun i => f) (fun i => [(0, .ref (a 0)), (1, .int q), (2, .int what), (3, .int (nI i))]) (fun i => i ≤ 21 ∧ cFFs w q what i (21 - i) = cFirst w q what) (fun i => 21 - i) 0 [1, 2, 3, 0] rfl rfl ?_ ?_
        · exact ⟨by decide, ((if_pos h_5).trans ((if_neg c_11).trans ((if_pos c_16).trans (rfl)))).symm⟩
        intro i hI ih
        try dsimp only at hI ih ⊢
        refine gx_iload_n (q := 3) C dX5_firstFreeNight_24 rfl ?_
        refine gx_bipush (v := 20) C dX5_firstFreeNight_25 (by decide) ?_
        refine gx_icmp_gt (tgt := 86) C dX5_firstFreeNight_27 (by decide) (fun c_27 => ?_) (fun c_27 => ?_)
        · skip
          have hb : i = 21 := Nat.le_antisymm hI.1 (by have := (nI_ltI (a := 20) (b := i) (by decide) (by omega)).mp c_27; omega)
          refine gx_bipush (v := (-6)) C dX5_firstFreeNight_86 (by decide) ?_
          exact gx_iretR C rfl hr dX5_firstFreeNight_88 (congrArg Value.int (by rw [← hI.2, hb]; rfl))
        · skip
          have hlt : i < 21 := by have := Nat.le_of_not_lt (fun z => c_27 ((nI_ltI (a := 20) (b := i) (by decide) (by omega)).mpr z)); omega
          obtain ⟨n, hn⟩ : ∃ n, 21 - i = n + 1 := ⟨20 - i, by omega⟩
          have h2 := hI.2
          rw [hn] at h2
          refine gx_aload_n (q := 0) C dX5_firstFreeNight_30 rfl ?_
          refine gx_get C (i := 1) (isWS_in hW 0 (Nat.le_of_ble_eq_true rfl)) (isWS_0 hW) rfl in_X5_firstFreeNight_5 (by decide) fl_X5_firstFreeNight_23 rfl dX5_firstFreeNight_31 ?_
          refine gx_iload_n (q := 3) C dX5_firstFreeNight_34 rfl ?_
          refine gx_callR C (k_X0_lowestFreeWheel l hW _) (isWS_in hW 1 (Nat.le_of_ble_eq_true rfl)) (isWS_1 hW) rfl (cwV 1 C.2.2.2.2.1 gX5_firstFreeNight_X0_lowestFreeWheel rfl rfl rfl kdV_X0_lowestFreeWheel ⟨Nat.le_of_ble_eq_true rfl, Nat.le_of_ble_eq_true rfl⟩) rfl rfl (Nat.le_of_ble_eq_true rfl) ⟨Nat.le_of_ble_eq_true rfl, Nat.le_of_ble_eq_true rfl⟩ dX5_firstFreeNight_35 ?_
          refine gx_istore C [(4, _), (0, _), (1, _), (2, _), (3, _)] dX5_firstFreeNight_38 (by decide) rfl ?_
          refine gx_iload (q := 0) C dX5_firstFreeNight_40 rfl ?_
          refine gx_bipush (v := (-6)) C dX5_firstFreeNight_42 (by decide) ?_
          refine gx_icmp_eq (tgt := 80) C dX5_firstFreeNight_44 (by decide) (fun c_44 => ?_) (fun c_44 => ?_)
          · skip
            refine gx_iinc C (q := 4) (v := nI (i + 1)) [(3, _), (4, _), (0, _), (1, _), (2, _)] dX5_firstFreeNight_80 rfl (nI_inc i) (by decide) rfl ?_
            refine gx_goto (tgt := 24) C dX5_firstFreeNight_83 (by decide) ?_
            rw [show cFFs w q what i (n + 1) = cFFs w q what (i + 1) n from if_pos c_44] at h2
            exact gx_back [2, 3, 4, 0] (ih (i + 1) ⟨by omega, by rw [show 21 - (i + 1) = n by omega]; exact h2⟩ (by omega)) rfl (by rfl)
          · skip
            refine gx_aload_n (q := 1) C dX5_firstFreeNight_47 rfl ?_
            refine gx_get C (i := 1) (isWS_in hW 0 (Nat.le_of_ble_eq_true rfl)) (isWS_0 hW) rfl in_X5_firstFreeNight_5 (by decide) fl_X5_firstFreeNight_23 rfl dX5_firstFreeNight_48 ?_
            refine gx_iload_n (q := 2) C dX5_firstFreeNight_51 rfl ?_
            refine gx_iload_n (q := 4) C dX5_firstFreeNight_52 rfl ?_
            refine gx_callR C (k_X0_wheelOf l hW _ _) (isWS_in hW 1 (Nat.le_of_ble_eq_true rfl)) (isWS_1 hW) rfl (cwV 2 C.2.2.2.2.1 gX5_firstFreeNight_X0_wheelOf rfl rfl rfl kdV_X0_wheelOf ⟨Nat.le_of_ble_eq_true rfl, Nat.le_of_ble_eq_true rfl⟩) rfl rfl (Nat.le_of_ble_eq_true rfl) ⟨Nat.le_of_ble_eq_true rfl, Nat.le_of_ble_eq_true rfl⟩ dX5_firstFreeNight_53 ?_
            refine gx_bipush (v := (-6)) C dX5_firstFreeNight_56 (by decide) ?_
            refine gx_icmp_ne (tgt := 80) C dX5_firstFreeNight_58 (by decide) (fun c_58 => ?_) (fun c_58 => ?_)
            · skip
              refine gx_iinc C (q := 4) (v := nI (i + 1)) [(3, _), (4, _), (0, _), (1, _), (2, _)] dX5_firstFreeNight_80 rfl (nI_inc i) (by decide) rfl ?_
              refine gx_goto (tgt := 24) C dX5_firstFreeNight_83 (by decide) ?_
              rw [show cFFs w q what i (n + 1) = cFFs w q what (i + 1) n from (if_neg c_44).trans (if_neg c_58)] at h2
              exact gx_back [2, 3, 4, 0] (ih (i + 1) ⟨by omega, by rw [show 21 - (i + 1) = n by omega]; exact h2⟩ (by omega)) rfl (by rfl)
            · skip
              refine gx_iload_n (q := 3) C dX5_firstFreeNight_61 rfl ?_
              refine gx_if_ne (tgt := 77) C dX5_firstFreeNight_62 (by decide) (fun c_62 => ?_) (fun c_62 => ?_)
              · skip
                refine gx_iload (q := 0) C dX5_firstFreeNight_77 rfl ?_
                exact gx_iretR C rfl hr dX5_firstFreeNight_79 (congrArg Value.int (by rw [← h2]; exact ((if_neg c_44).trans ((if_pos c_58).trans (if_neg c_62))).symm))
              · skip
                refine gx_aload_n (q := 1) C dX5_firstFreeNight_65 rfl ?_
                refine gx_get C (i := 1) (isWS_in hW 0 (Nat.le_of_ble_eq_true rfl)) (isWS_0 hW) rfl in_X5_firstFreeNight_5 (by decide) fl_X5_firstFreeNight_23 rfl dX5_firstFreeNight_66 ?_
                refine gx_getN C (i := 1) (isWS_in hW 1 (Nat.le_of_ble_eq_true rfl)) (isWS_1 hW) rfl in_X5_firstFreeNight_0 (by decide) (by decide +kernel) rfl dX5_firstFreeNight_69 ?_
                refine gx_iload_n (q := 4) C dX5_firstFreeNight_72 rfl ?_
                refine gx_iadd C dX5_firstFreeNight_73 ?_
                refine gx_goto (tgt := 79) C dX5_firstFreeNight_74 (by decide) ?_
                exact gx_iretR C rfl hr dX5_firstFreeNight_79 (congrArg Value.int (by rw [← h2]; exact ((if_neg c_44).trans ((if_pos c_58).trans (if_pos c_62))).symm))
      · skip
        refine gx_bipush (v := (-2)) C dX5_firstFreeNight_19 (by decide) ?_
        exact gx_iretR C rfl hr dX5_firstFreeNight_21 (congrArg Value.int (by exact ((if_pos h_5).trans ((if_neg c_11).trans ((if_neg c_16).trans (rfl)))).symm))
  · skip
    have h_5 := bI0.mp c_5
    refine gx_iconst (v := (-1)) C dX5_firstFreeNight_8 (by decide) ?_
    exact gx_iretR C rfl hr dX5_firstFreeNight_9 (congrArg Value.int (by exact ((if_neg (bF h_5)).trans (rfl)).symm))
theorem kdN_X5_passNights : yX5_passNights.cls ≠ "java/lang/invoke/MethodHandle" ∧ yX5_passNights.cls ≠ "java/lang/invoke/VarHandle" ∧ (parseMethodDescriptor yX5_passNights.desc).map (fun d => d.parameters.length) = some 1 := by decide +kernel
theorem kdV_X5_passNights : yX5_passNights.cls = RX5 ∧ yX5_passNights.cls ≠ "java/lang/invoke/MethodHandle" ∧ yX5_passNights.cls ≠ "java/lang/invoke/VarHandle" ∧ (parseMethodDescriptor yX5_passNights.desc).map (fun d => d.parameters.length) = some 1 := ⟨rfl, kdN_X5_passNights⟩
def cPassN (w : WS) : Nat → WS
  | 0 => w
  | n + 1 => cPassOne (cDry (cPassN w n))
def cPassV (w : WS) (n : Int32) : Int32 := if isW n 1 20 = true then (if w.2 0 + n ≤ 999 then (cPassN w n.toNatClampNeg).2 0 else -5) else -2
def cPassW (w : WS) (n : Int32) : WS := if isW n 1 20 = true then (if w.2 0 + n ≤ 999 then cPassN w n.toNatClampNeg else w) else w
theorem cCrossN_n (w : WS) : ∀ i, (cCrossN w i).2 = w.2
  | 0 => rfl
  | i + 1 => cCrossN_n w i
theorem wOK_2 {w w2 : WS} (h : wOK w) (e : w2.2 2 = w.2 2) : wOK w2 := by
  unfold wOK wN at *
  rw [e]
  exact h
theorem cPassN_ok {w : WS} (h : wOK w) : ∀ i, wOK (cPassN w i)
  | 0 => h
  | i + 1 => wOK_2 (cPassN_ok h i) (by
    show ((cPassOne (cDry (cPassN w i))).2) 2 = _
    have e : (cPassOne (cDry (cPassN w i))).2 2 = (cCrossN (cDry (cPassN w i)) 5).2 2 := rfl
    rw [e, cCrossN_n]
    unfold cDry
    rw [cDryN_n])
theorem wd_X5_passNights_ini_RX6 : Cond.initialized RX6 ∈ wsX5_passNights := by decide +kernel
theorem wd_X5_passNights_st_X6_isWithin : Cond.static yX6_isWithin ∈ wsX5_passNights := by decide +kernel
theorem in_X5_passNights_5 : ∀ w ∈ u_ws RX5 TX5 8, w ∈ wsX5_passNights := by decide +kernel
theorem fl_X5_passNights_23 : Cond.fieldLink RX5 23 (TX5 1).1 (TX5 1).2.1 (TX5 1).2.2.1 ∈ wsX5_passNights := by decide +kernel
theorem in_X5_passNights_0 : ∀ w ∈ u_ws RX0 TX0 3, w ∈ wsX5_passNights := by decide +kernel
theorem fl_X5_passNights_30 : Cond.fieldLink RX5 30 (TX5 2).1 (TX5 2).2.1 (TX5 2).2.2.1 ∈ wsX5_passNights := by decide +kernel
abbrev rmX5_passNights : Room := { frames := 3, cells := 0, slots := 0, locals := 65 }
set_option maxHeartbeats 4000000 in
set_option maxRecDepth 100000 in
theorem k_X5_passNights (l : Launch) {k : gK} {L : List Nat} {f : Nat → va_E} (hL : L.Nodup) {a : Nat → Nat} {w : WS} (hW : isWS k L f a w) (hN : wOK w) (n : Int32) : kM l k L f yX5_passNights wsX5_passNights rmX5_passNights [.ref (a 0), .int n] (wP k L a f (some (.int (cPassV w n))) (cPassW w n)) := by
  refine kM_of (cc := cX5_passNights) (maxL := 3) (ret := (some .int)) (by decide) rfl (Nat.le_of_ble_eq_true rfl) ?_
  intro p e s m args below meth c C hr
  have hD : gD (fun q => q ∈ L) L := ⟨hL, fun _ h => h⟩
  refine gx_lv [(0, _), (1, _)] [0, 1] rfl ?_
  refine gx_iload_n (q := 1) C dX5_passNights_0 rfl ?_
  refine gx_iconst (v := 1) C dX5_passNights_1 (by decide) ?_
  refine gx_bipush (v := 20) C dX5_passNights_2 (by decide) ?_
  refine gx_callRN C (k_X6_isWithin l (k := k) (L := L) _ _ _) ⟨va_cnB 3 C.2.2.2.2.1 gX5_passNights_X6_isWithin_n67 rfl rfl rfl (C.2.2.2.2.2.1.2.2 (RX5, 67, yX6_isWithin) (by decide +kernel)) (C.2.2.2.2.1 _ wd_X5_passNights_ini_RX6) kdN_X6_isWithin ⟨Nat.le_of_ble_eq_true rfl, Nat.le_of_ble_eq_true rfl⟩, C.2.2.2.2.1 _ wd_X5_passNights_st_X6_isWithin, trivial⟩ rfl rfl (Nat.le_of_ble_eq_true rfl) ⟨Nat.le_of_ble_eq_true rfl, Nat.le_of_ble_eq_true rfl⟩ dX5_passNights_4 ?_
  refine gx_if_ne (tgt := 13) C dX5_passNights_7 (by decide) (fun c_7 => ?_) (fun c_7 => ?_)
  · skip
    have h_7 := bI1.mp c_7
    refine gx_aload_n (q := 0) C dX5_passNights_13 rfl ?_
    refine gx_get C (i := 1) (isWS_in hW 0 (Nat.le_of_ble_eq_true rfl)) (isWS_0 hW) rfl in_X5_passNights_5 (by decide) fl_X5_passNights_23 rfl dX5_passNights_14 ?_
    refine gx_getN C (i := 1) (isWS_in hW 1 (Nat.le_of_ble_eq_true rfl)) (isWS_1 hW) rfl in_X5_passNights_0 (by decide) (by decide +kernel) rfl dX5_passNights_17 ?_
    refine gx_iload_n (q := 1) C dX5_passNights_20 rfl ?_
    refine gx_iadd C dX5_passNights_21 ?_
    refine gx_sipush (v := 999) C dX5_passNights_22 (by decide) ?_
    refine gx_icmp_le (tgt := 31) C dX5_passNights_25 (by decide) (fun c_25 => ?_) (fun c_25 => ?_)
    · skip
      obtain ⟨m, hm1, hm2, rfl⟩ := isW_of (lo := 1) (hi := 20) (by decide) (by decide) h_7
      refine gx_iconst (v := 0) C dX5_passNights_31 (by decide) ?_
      refine gx_istore_n C (i := 2) [(2, _), (0, _), (1, _)] dX5_passNights_32 rfl (by decide) rfl ?_
      refine gx_loop (σ := Nat × (Nat → va_E)) (fun z => z.2) (fun z => [(0, .ref (a 0)), (1, .int (nI m)), (2, .int (nI z.1))]) (fun z => z.1 ≤ m ∧ isWS k L z.2 a (cPassN w z.1) ∧ gFr a 27 f z.2) (fun z => m - z.1) (0, _) [1, 2, 0] rfl rfl ?_ ?_
      · exact ⟨Nat.zero_le _, hW, (gFr_rf (f := f))⟩
      intro ⟨i, fi⟩ ⟨hI, hWi, hFi⟩ ih
      try dsimp only at hI hWi hFi ih ⊢
      refine gx_iload_n (q := 2) C dX5_passNights_33 rfl ?_
      refine gx_iload_n (q := 1) C dX5_passNights_34 rfl ?_
      refine gx_icmp_ge (tgt := 58) C dX5_passNights_35 (by decide) (fun c_35 => ?_) (fun c_35 => ?_)
      · skip
        have hb : i = m := Nat.le_antisymm hI ((nI_leI (by omega) (by omega)).mp c_35)
        refine gx_aload_n (q := 0) C dX5_passNights_58 rfl ?_
        refine gx_get C (i := 1) (isWS_in hWi 0 (Nat.le_of_ble_eq_true rfl)) (isWS_0 hWi) rfl in_X5_passNights_5 (by decide) fl_X5_passNights_23 rfl dX5_passNights_59 ?_
        refine gx_getN C (i := 1) (isWS_in hWi 1 (Nat.le_of_ble_eq_true rfl)) (isWS_1 hWi) rfl in_X5_passNights_0 (by decide) (by decide +kernel) rfl dX5_passNights_62 ?_
        exact gx_iretW C hr hWi hFi dX5_passNights_65 (by subst hb; exact ((if_pos h_7).trans ((if_pos c_25).trans (by rw [nI_clamp (by omega : i < 2 ^ 31)]))).symm) (by subst hb; exact ((if_pos h_7).trans ((if_pos c_25).trans (by rw [nI_clamp (by omega : i < 2 ^ 31)]))).symm)
      · skip
        have hlt : i < m := Nat.lt_of_not_le (fun z => c_35 ((nI_leI (by omega) (by omega)).mpr z))
        refine gx_aload_n (q := 0) C dX5_passNights_38 rfl ?_
        refine gx_get C (i := 2) (isWS_in hWi 0 (Nat.le_of_ble_eq_true rfl)) (isWS_0 hWi) rfl in_X5_passNights_5 (by decide) fl_X5_passNights_30 rfl dX5_passNights_39 ?_
        refine gx_callWv C hD hFi (k_X3_dryOneNight l hL hWi (cPassN_ok hN i) ) (isWS_in hWi 2 (Nat.le_of_ble_eq_true rfl)) (isWS_2 hWi) rfl (cwV 0 C.2.2.2.2.1 gX5_passNights_X3_dryOneNight rfl rfl rfl kdV_X3_dryOneNight ⟨Nat.le_of_ble_eq_true rfl, Nat.le_of_ble_eq_true rfl⟩) rfl rfl (Nat.le_of_ble_eq_true rfl) ⟨Nat.le_of_ble_eq_true rfl, Nat.le_of_ble_eq_true rfl⟩ dX5_passNights_42 (fun f_1 hW_1 hF_1 => ?_)
        refine gx_aload_n (q := 0) C dX5_passNights_45 rfl ?_
        refine gx_get C (i := 1) (isWS_in hW_1 0 (Nat.le_of_ble_eq_true rfl)) (isWS_0 hW_1) rfl in_X5_passNights_5 (by decide) fl_X5_passNights_23 rfl dX5_passNights_46 ?_
        refine gx_callWv C hD hF_1 (k_X0_passOneNight l hL hW_1 ) (isWS_in hW_1 1 (Nat.le_of_ble_eq_true rfl)) (isWS_1 hW_1) rfl (cwV 0 C.2.2.2.2.1 gX5_passNights_X0_passOneNight rfl rfl rfl kdV_X0_passOneNight ⟨Nat.le_of_ble_eq_true rfl, Nat.le_of_ble_eq_true rfl⟩) rfl rfl (Nat.le_of_ble_eq_true rfl) ⟨Nat.le_of_ble_eq_true rfl, Nat.le_of_ble_eq_true rfl⟩ dX5_passNights_49 (fun f_2 hW_2 hF_2 => ?_)
        refine gx_iinc C (q := 2) (v := nI (i + 1)) [(2, _), (0, _), (1, _)] dX5_passNights_52 rfl (nI_inc i) (by decide) rfl ?_
        refine gx_goto (tgt := 33) C dX5_passNights_55 (by decide) ?_
        exact gx_back [1, 2, 0] (ih (i + 1, _) ⟨by omega, hW_2, hF_2⟩ (by show m - (i + 1) < m - i; omega)) rfl (by rfl)
    · skip
      refine gx_bipush (v := (-5)) C dX5_passNights_28 (by decide) ?_
      exact gx_iretW C hr hW (gFr_rf (f := f)) dX5_passNights_30 (by exact ((if_pos h_7).trans ((if_neg c_25).trans (rfl))).symm) (by exact ((if_pos h_7).trans ((if_neg c_25).trans (rfl))).symm)
  · skip
    have h_7 := bI0.mp c_7
    refine gx_bipush (v := (-2)) C dX5_passNights_10 (by decide) ?_
    exact gx_iretW C hr hW (gFr_rf (f := f)) dX5_passNights_12 (by exact ((if_neg (bF h_7)).trans (rfl)).symm) (by exact ((if_neg (bF h_7)).trans (rfl)).symm)
theorem kdN_X5_loadable : yX5_loadable.cls ≠ "java/lang/invoke/MethodHandle" ∧ yX5_loadable.cls ≠ "java/lang/invoke/VarHandle" ∧ (parseMethodDescriptor yX5_loadable.desc).map (fun d => d.parameters.length) = some 0 := by decide +kernel
theorem kdV_X5_loadable : yX5_loadable.cls = RX5 ∧ yX5_loadable.cls ≠ "java/lang/invoke/MethodHandle" ∧ yX5_loadable.cls ≠ "java/lang/invoke/VarHandle" ∧ (parseMethodDescriptor yX5_loadable.desc).map (fun d => d.parameters.length) = some 0 := ⟨rfl, kdN_X5_loadable⟩
def cLoadable (w : WS) : Int32 := mk (fun j => decide (vX5_reasonAgainstLoading w (nI j) = 0)) (wN w)
theorem in_X5_loadable_5 : ∀ w ∈ u_ws RX5 TX5 8, w ∈ wsX5_loadable := by decide +kernel
theorem fl_X5_loadable_30 : Cond.fieldLink RX5 30 (TX5 2).1 (TX5 2).2.1 (TX5 2).2.2.1 ∈ wsX5_loadable := by decide +kernel
theorem in_X5_loadable_3 : ∀ w ∈ u_ws RX3 TX3 9, w ∈ wsX5_loadable := by decide +kernel
abbrev rmX5_loadable : Room := { frames := 4, cells := 0, slots := 0, locals := 88 }
set_option maxHeartbeats 4000000 in
set_option maxRecDepth 100000 in
theorem k_X5_loadable (l : Launch) {k : gK} {L : List Nat} {f : Nat → va_E} {a : Nat → Nat} {w : WS} (hW : isWS k L f a w) (hN : wOK w)  : kR l k L f yX5_loadable wsX5_loadable rmX5_loadable [.ref (a 0)] (.int (cLoadable w)) := by
  refine kR_of (cc := cX5_loadable) (maxL := 3) (ret := (some .int)) (by decide) rfl (Nat.le_of_ble_eq_true rfl) ?_
  intro p e s m args below meth c C hr
  refine gx_lv [(0, _)] [0] rfl ?_
  refine gx_iconst (v := 0) C dX5_loadable_0 (by decide) ?_
  refine gx_istore_n C (i := 1) [(1, _), (0, _)] dX5_loadable_1 rfl (by decide) rfl ?_
  refine gx_iconst (v := 0) C dX5_loadable_2 (by decide) ?_
  refine gx_istore_n C (i := 2) [(2, _), (1, _), (0, _)] dX5_loadable_3 rfl (by decide) rfl ?_
  refine gx_loop (σ := Nat) (fun i => f) (fun i => [(0, .ref (a 0)), (1, .int (mk (fun j => decide (vX5_reasonAgainstLoading w (nI j) = 0)) i)), (2, .int (nI i))]) (fun i => i ≤ wN w) (fun i => wN w - i) 0 [2, 1, 0] rfl rfl ?_ ?_
  · exact Nat.zero_le _
  intro i hI ih
  try dsimp only at hI ih ⊢
  have h20 := hN.2
  refine gx_iload_n (q := 2) C dX5_loadable_4 rfl ?_
  refine gx_aload_n (q := 0) C dX5_loadable_5 rfl ?_
  refine gx_get C (i := 2) (isWS_in hW 0 (Nat.le_of_ble_eq_true rfl)) (isWS_0 hW) rfl in_X5_loadable_5 (by decide) fl_X5_loadable_30 rfl dX5_loadable_6 ?_
  refine gx_getN C (i := 8) (isWS_in hW 2 (Nat.le_of_ble_eq_true rfl)) (isWS_2 hW) rfl in_X5_loadable_3 (by decide) (by decide +kernel) rfl dX5_loadable_9 ?_
  refine gx_top (nI (wN w)) hN.1 ?_
  refine gx_icmp_ge (tgt := 35) C dX5_loadable_12 (by decide) (fun c_12 => ?_) (fun c_12 => ?_)
  · skip
    have hb := (nI_leI (by omega) (by omega)).mp c_12
    refine gx_iload_n (q := 1) C dX5_loadable_35 rfl ?_
    exact gx_iretR C rfl hr dX5_loadable_36 (congrArg Value.int (by rw [show i = wN w by omega]; rfl))
  · skip
    have hlt : i < wN w := Nat.lt_of_not_le (fun z => c_12 ((nI_leI (by omega) (by omega)).mpr z))
    refine gx_aload_n (q := 0) C dX5_loadable_15 rfl ?_
    refine gx_iload_n (q := 2) C dX5_loadable_16 rfl ?_
    refine gx_callR C (k_X5_reasonAgainstLoading l hW hN _) (isWS_in hW 0 (Nat.le_of_ble_eq_true rfl)) (isWS_0 hW) rfl (cwV 1 C.2.2.2.2.1 gX5_loadable_X5_reasonAgainstLoading rfl rfl rfl kdV_X5_reasonAgainstLoading ⟨Nat.le_of_ble_eq_true rfl, Nat.le_of_ble_eq_true rfl⟩) rfl rfl (Nat.le_of_ble_eq_true rfl) ⟨Nat.le_of_ble_eq_true rfl, Nat.le_of_ble_eq_true rfl⟩ dX5_loadable_17 ?_
    refine gx_if_ne (tgt := 29) C dX5_loadable_20 (by decide) (fun c_20 => ?_) (fun c_20 => ?_)
    · skip
      refine gx_iinc C (q := 2) (v := nI (i + 1)) [(2, _), (0, _), (1, _)] dX5_loadable_29 rfl (nI_inc i) (by decide) rfl ?_
      refine gx_goto (tgt := 4) C dX5_loadable_32 (by decide) ?_
      exact gx_back [1, 2, 0] (ih (i + 1) (by omega) (by omega)) rfl (by rw [mk_f (P := fun j => decide (vX5_reasonAgainstLoading w (nI j) = 0)) (decide_eq_false c_20)]; rfl)
    · skip
      refine gx_iload_n (q := 1) C dX5_loadable_23 rfl ?_
      refine gx_iconst (v := 1) C dX5_loadable_24 (by decide) ?_
      refine gx_iload_n (q := 2) C dX5_loadable_25 rfl ?_
      refine gx_ishl C dX5_loadable_26 ?_
      refine gx_ior C dX5_loadable_27 ?_
      refine gx_istore_n C (i := 1) [(1, _), (0, _), (2, _)] dX5_loadable_28 rfl (by decide) rfl ?_
      refine gx_iinc C (q := 2) (v := nI (i + 1)) [(2, _), (1, _), (0, _)] dX5_loadable_29 rfl (nI_inc i) (by decide) rfl ?_
      refine gx_goto (tgt := 4) C dX5_loadable_32 (by decide) ?_
      exact gx_back [2, 1, 0] (ih (i + 1) (by omega) (by omega)) rfl (by rw [mk_t (P := fun j => decide (vX5_reasonAgainstLoading w (nI j) = 0)) (decide_eq_true c_20)]; rfl)
theorem kdN_X5_firedTo : yX5_firedTo.cls ≠ "java/lang/invoke/MethodHandle" ∧ yX5_firedTo.cls ≠ "java/lang/invoke/VarHandle" ∧ (parseMethodDescriptor yX5_firedTo.desc).map (fun d => d.parameters.length) = some 2 := by decide +kernel
theorem kdV_X5_firedTo : yX5_firedTo.cls = RX5 ∧ yX5_firedTo.cls ≠ "java/lang/invoke/MethodHandle" ∧ yX5_firedTo.cls ≠ "java/lang/invoke/VarHandle" ∧ (parseMethodDescriptor yX5_firedTo.desc).map (fun d => d.parameters.length) = some 2 := ⟨rfl, kdN_X5_firedTo⟩
def cFTP (w : WS) (kd heat : Int32) : Nat → Bool := fun j => cKiln w (nI j) && decide (cFired w (nI j) heat (rAt 4 (w.1 0) 2) = kd)
def cFiredTo (w : WS) (kd heat : Int32) : Int32 := mk (cFTP w kd heat) (wN w)
theorem in_X5_firedTo_5 : ∀ w ∈ u_ws RX5 TX5 8, w ∈ wsX5_firedTo := by decide +kernel
theorem fl_X5_firedTo_30 : Cond.fieldLink RX5 30 (TX5 2).1 (TX5 2).2.1 (TX5 2).2.2.1 ∈ wsX5_firedTo := by decide +kernel
theorem in_X5_firedTo_3 : ∀ w ∈ u_ws RX3 TX3 9, w ∈ wsX5_firedTo := by decide +kernel
theorem fl_X5_firedTo_14 : Cond.fieldLink RX5 14 (TX5 0).1 (TX5 0).2.1 (TX5 0).2.2.1 ∈ wsX5_firedTo := by decide +kernel
abbrev rmX5_firedTo : Room := { frames := 3, cells := 0, slots := 0, locals := 67 }
set_option maxHeartbeats 4000000 in
set_option maxRecDepth 100000 in
theorem k_X5_firedTo (l : Launch) {k : gK} {L : List Nat} {f : Nat → va_E} {a : Nat → Nat} {w : WS} (hW : isWS k L f a w) (hN : wOK w) (kd : Int32) (heat : Int32) : kR l k L f yX5_firedTo wsX5_firedTo rmX5_firedTo [.ref (a 0), .int kd, .int heat] (.int (cFiredTo w kd heat)) := by
  refine kR_of (cc := cX5_firedTo) (maxL := 5) (ret := (some .int)) (by decide) rfl (Nat.le_of_ble_eq_true rfl) ?_
  intro p e s m args below meth c C hr
  refine gx_lv [(0, _), (1, _), (2, _)] [0, 1, 2] rfl ?_
  refine gx_iconst (v := 0) C dX5_firedTo_0 (by decide) ?_
  refine gx_istore_n C (i := 3) [(3, _), (0, _), (1, _), (2, _)] dX5_firedTo_1 rfl (by decide) rfl ?_
  refine gx_iconst (v := 0) C dX5_firedTo_2 (by decide) ?_
  refine gx_istore C [(4, _), (3, _), (0, _), (1, _), (2, _)] dX5_firedTo_3 (by decide) rfl ?_
  refine gx_loop (σ := Nat) (fun i => f) (fun i => [(0, .ref (a 0)), (1, .int kd), (2, .int heat), (3, .int (mk (cFTP w kd heat) i)), (4, .int (nI i))]) (fun i => i ≤ wN w) (fun i => wN w - i) 0 [2, 3, 4, 1, 0] rfl rfl ?_ ?_
  · exact Nat.zero_le _
  intro i hI ih
  try dsimp only at hI ih ⊢
  have h20 := hN.2
  refine gx_iload (q := 4) C dX5_firedTo_5 rfl ?_
  refine gx_aload_n (q := 0) C dX5_firedTo_7 rfl ?_
  refine gx_get C (i := 2) (isWS_in hW 0 (Nat.le_of_ble_eq_true rfl)) (isWS_0 hW) rfl in_X5_firedTo_5 (by decide) fl_X5_firedTo_30 rfl dX5_firedTo_8 ?_
  refine gx_getN C (i := 8) (isWS_in hW 2 (Nat.le_of_ble_eq_true rfl)) (isWS_2 hW) rfl in_X5_firedTo_3 (by decide) (by decide +kernel) rfl dX5_firedTo_11 ?_
  refine gx_top (nI (wN w)) hN.1 ?_
  refine gx_icmp_ge (tgt := 64) C dX5_firedTo_14 (by decide) (fun c_14 => ?_) (fun c_14 => ?_)
  · skip
    have hb := (nI_leI (by omega) (by omega)).mp c_14
    refine gx_iload_n (q := 3) C dX5_firedTo_64 rfl ?_
    exact gx_iretR C rfl hr dX5_firedTo_65 (congrArg Value.int (by rw [show i = wN w by omega]; rfl))
  · skip
    have hlt : i < wN w := Nat.lt_of_not_le (fun z => c_14 ((nI_leI (by omega) (by omega)).mpr z))
    refine gx_aload_n (q := 0) C dX5_firedTo_17 rfl ?_
    refine gx_get C (i := 2) (isWS_in hW 0 (Nat.le_of_ble_eq_true rfl)) (isWS_0 hW) rfl in_X5_firedTo_5 (by decide) fl_X5_firedTo_30 rfl dX5_firedTo_18 ?_
    refine gx_iload (q := 4) C dX5_firedTo_21 rfl ?_
    refine gx_callR C (k_X3_isInKiln l hW _) (isWS_in hW 2 (Nat.le_of_ble_eq_true rfl)) (isWS_2 hW) rfl (cwV 1 C.2.2.2.2.1 gX5_firedTo_X3_isInKiln rfl rfl rfl kdV_X3_isInKiln ⟨Nat.le_of_ble_eq_true rfl, Nat.le_of_ble_eq_true rfl⟩) rfl rfl (Nat.le_of_ble_eq_true rfl) ⟨Nat.le_of_ble_eq_true rfl, Nat.le_of_ble_eq_true rfl⟩ dX5_firedTo_23 ?_
    refine gx_if_eq (tgt := 58) C dX5_firedTo_26 (by decide) (fun c_26 => ?_) (fun c_26 => ?_)
    · skip
      have h_26 := bI0.mp c_26
      refine gx_iinc C (q := 4) (v := nI (i + 1)) [(4, _), (0, _), (1, _), (2, _), (3, _)] dX5_firedTo_58 rfl (nI_inc i) (by decide) rfl ?_
      refine gx_goto (tgt := 5) C dX5_firedTo_61 (by decide) ?_
      exact gx_back [1, 2, 3, 4, 0] (ih (i + 1) (by omega) (by omega)) rfl (by rw [mk_f (P := cFTP w kd heat) (show (_ && _) = false by rw [h_26]; rfl)]; rfl)
    · skip
      have h_26 := bI1.mp c_26
      refine gx_aload_n (q := 0) C dX5_firedTo_29 rfl ?_
      refine gx_get C (i := 2) (isWS_in hW 0 (Nat.le_of_ble_eq_true rfl)) (isWS_0 hW) rfl in_X5_firedTo_5 (by decide) fl_X5_firedTo_30 rfl dX5_firedTo_30 ?_
      refine gx_iload (q := 4) C dX5_firedTo_33 rfl ?_
      refine gx_iload_n (q := 2) C dX5_firedTo_35 rfl ?_
      refine gx_aload_n (q := 0) C dX5_firedTo_36 rfl ?_
      refine gx_get C (i := 0) (isWS_in hW 0 (Nat.le_of_ble_eq_true rfl)) (isWS_0 hW) rfl in_X5_firedTo_5 (by decide) fl_X5_firedTo_14 rfl dX5_firedTo_37 ?_
      refine gx_iconst (v := 2) C dX5_firedTo_40 (by decide) ?_
      refine gx_callR C (kw_X4_at l hW 0 (Nat.le_of_ble_eq_true rfl) 4 rfl _) (isWS_in hW 3 (Nat.le_of_ble_eq_true rfl)) (isWS_row hW 0 (Nat.le_of_ble_eq_true rfl)) rfl (cwV 1 C.2.2.2.2.1 gX5_firedTo_X4_at rfl rfl rfl kdV_X4_at ⟨Nat.le_of_ble_eq_true rfl, Nat.le_of_ble_eq_true rfl⟩) rfl rfl (Nat.le_of_ble_eq_true rfl) ⟨Nat.le_of_ble_eq_true rfl, Nat.le_of_ble_eq_true rfl⟩ dX5_firedTo_41 ?_
      refine gx_callR C (k_X3_kindFired l hW _ _ _) (isWS_in hW 2 (Nat.le_of_ble_eq_true rfl)) (isWS_2 hW) rfl (cwV 3 C.2.2.2.2.1 gX5_firedTo_X3_kindFired rfl rfl rfl kdV_X3_kindFired ⟨Nat.le_of_ble_eq_true rfl, Nat.le_of_ble_eq_true rfl⟩) rfl rfl (Nat.le_of_ble_eq_true rfl) ⟨Nat.le_of_ble_eq_true rfl, Nat.le_of_ble_eq_true rfl⟩ dX5_firedTo_44 ?_
      refine gx_iload_n (q := 1) C dX5_firedTo_47 rfl ?_
      refine gx_icmp_ne (tgt := 58) C dX5_firedTo_48 (by decide) (fun c_48 => ?_) (fun c_48 => ?_)
      · skip
        refine gx_iinc C (q := 4) (v := nI (i + 1)) [(4, _), (0, _), (1, _), (2, _), (3, _)] dX5_firedTo_58 rfl (nI_inc i) (by decide) rfl ?_
        refine gx_goto (tgt := 5) C dX5_firedTo_61 (by decide) ?_
        exact gx_back [1, 2, 3, 4, 0] (ih (i + 1) (by omega) (by omega)) rfl (by rw [mk_f (P := cFTP w kd heat) (show (_ && _) = false by rw [h_26]; exact decide_eq_false c_48)]; rfl)
      · skip
        refine gx_iload_n (q := 3) C dX5_firedTo_51 rfl ?_
        refine gx_iconst (v := 1) C dX5_firedTo_52 (by decide) ?_
        refine gx_iload (q := 4) C dX5_firedTo_53 rfl ?_
        refine gx_ishl C dX5_firedTo_55 ?_
        refine gx_ior C dX5_firedTo_56 ?_
        refine gx_istore_n C (i := 3) [(3, _), (0, _), (1, _), (2, _), (4, _)] dX5_firedTo_57 rfl (by decide) rfl ?_
        refine gx_iinc C (q := 4) (v := nI (i + 1)) [(4, _), (3, _), (0, _), (1, _), (2, _)] dX5_firedTo_58 rfl (nI_inc i) (by decide) rfl ?_
        refine gx_goto (tgt := 5) C dX5_firedTo_61 (by decide) ?_
        exact gx_back [2, 3, 4, 1, 0] (ih (i + 1) (by omega) (by omega)) rfl (by rw [mk_t (P := cFTP w kd heat) (show (_ && _) = true by rw [h_26]; exact decide_eq_true c_48)]; rfl)
theorem kdN_X5_fireKiln : yX5_fireKiln.cls ≠ "java/lang/invoke/MethodHandle" ∧ yX5_fireKiln.cls ≠ "java/lang/invoke/VarHandle" ∧ (parseMethodDescriptor yX5_fireKiln.desc).map (fun d => d.parameters.length) = some 1 := by decide +kernel
theorem kdV_X5_fireKiln : yX5_fireKiln.cls = RX5 ∧ yX5_fireKiln.cls ≠ "java/lang/invoke/MethodHandle" ∧ yX5_fireKiln.cls ≠ "java/lang/invoke/VarHandle" ∧ (parseMethodDescriptor yX5_fireKiln.desc).map (fun d => d.parameters.length) = some 1 := ⟨rfl, kdN_X5_fireKiln⟩
def cFireN (w : WS) (heat : Int32) : Nat → WS
  | 0 => w
  | n + 1 => if cKiln (cFireN w heat n) (nI n) = true then wX5_firePot (cFireN w heat n) (nI n) heat else cFireN w heat n
theorem wfp_n (w : WS) (q heat : Int32) : (wX5_firePot w q heat).2 = w.2 := by unfold wX5_firePot; split <;> rfl
theorem cFireN_n (w : WS) (heat : Int32) : ∀ i, (cFireN w heat i).2 = w.2
  | 0 => rfl
  | i + 1 => by
    show (if cKiln (cFireN w heat i) (nI i) = true then wX5_firePot (cFireN w heat i) (nI i) heat else cFireN w heat i).2 = w.2
    split
    · rw [wfp_n]; exact cFireN_n w heat i
    · exact cFireN_n w heat i
theorem cFireN_ok {w : WS} (h : wOK w) (heat : Int32) (i : Nat) : wOK (cFireN w heat i) := wOK_2 h (by rw [cFireN_n])
def cBreaking (w : WS) (heat : Int32) : Int32 := bitC (cFiredTo w 4 heat)
def cFireV (w : WS) (heat : Int32) : Int32 := if isW heat 80 140 = true then (if cInKiln w = 0 then -5 else if bitC (cInKiln w) - cBreaking w heat ≤ cFree w then cBreaking w heat else -4) else -2
def cFireW (w : WS) (heat : Int32) : WS := if isW heat 80 140 = true then (if cInKiln w = 0 then w else if bitC (cInKiln w) - cBreaking w heat ≤ cFree w then wSc (cFireN w heat (wN w)) 5 ((cFireN w heat (wN w)).2 5 + 1) else w) else w
theorem wd_X5_fireKiln_ini_RX6 : Cond.initialized RX6 ∈ wsX5_fireKiln := by decide +kernel
theorem wd_X5_fireKiln_st_X6_isHeat : Cond.static yX6_isHeat ∈ wsX5_fireKiln := by decide +kernel
theorem in_X5_fireKiln_5 : ∀ w ∈ u_ws RX5 TX5 8, w ∈ wsX5_fireKiln := by decide +kernel
theorem fl_X5_fireKiln_30 : Cond.fieldLink RX5 30 (TX5 2).1 (TX5 2).2.1 (TX5 2).2.2.1 ∈ wsX5_fireKiln := by decide +kernel
theorem in_X5_fireKiln_3 : ∀ w ∈ u_ws RX3 TX3 9, w ∈ wsX5_fireKiln := by decide +kernel
theorem fl_X5_fireKiln_61 : Cond.fieldLink RX5 61 (TX5 7).1 (TX5 7).2.1 (TX5 7).2.2.1 ∈ wsX5_fireKiln := by decide +kernel
abbrev rmX5_fireKiln : Room := { frames := 4, cells := 0, slots := 0, locals := 91 }
set_option maxHeartbeats 4000000 in
set_option maxRecDepth 100000 in
theorem k_X5_fireKiln (l : Launch) {k : gK} {L : List Nat} {f : Nat → va_E} (hL : L.Nodup) {a : Nat → Nat} {w : WS} (hW : isWS k L f a w) (hN : wOK w) (heat : Int32) : kM l k L f yX5_fireKiln wsX5_fireKiln rmX5_fireKiln [.ref (a 0), .int heat] (wP k L a f (some (.int (cFireV w heat))) (cFireW w heat)) := by
  refine kM_of (cc := cX5_fireKiln) (maxL := 5) (ret := (some .int)) (by decide) rfl (Nat.le_of_ble_eq_true rfl) ?_
  intro p e s m args below meth c C hr
  have hD : gD (fun q => q ∈ L) L := ⟨hL, fun _ h => h⟩
  refine gx_lv [(0, _), (1, _)] [0, 1] rfl ?_
  refine gx_iload_n (q := 1) C dX5_fireKiln_0 rfl ?_
  refine gx_callRN C (k_X6_isHeat l (k := k) (L := L) _) ⟨va_cnB 1 C.2.2.2.2.1 gX5_fireKiln_X6_isHeat_n197 rfl rfl rfl (C.2.2.2.2.2.1.2.2 (RX5, 197, yX6_isHeat) (by decide +kernel)) (C.2.2.2.2.1 _ wd_X5_fireKiln_ini_RX6) kdN_X6_isHeat ⟨Nat.le_of_ble_eq_true rfl, Nat.le_of_ble_eq_true rfl⟩, C.2.2.2.2.1 _ wd_X5_fireKiln_st_X6_isHeat, trivial⟩ rfl rfl (Nat.le_of_ble_eq_true rfl) ⟨Nat.le_of_ble_eq_true rfl, Nat.le_of_ble_eq_true rfl⟩ dX5_fireKiln_1 ?_
  refine gx_if_ne (tgt := 10) C dX5_fireKiln_4 (by decide) (fun c_4 => ?_) (fun c_4 => ?_)
  · skip
    have h_4 := bI1.mp c_4
    refine gx_aload_n (q := 0) C dX5_fireKiln_10 rfl ?_
    refine gx_get C (i := 2) (isWS_in hW 0 (Nat.le_of_ble_eq_true rfl)) (isWS_0 hW) rfl in_X5_fireKiln_5 (by decide) fl_X5_fireKiln_30 rfl dX5_fireKiln_11 ?_
    refine gx_callR C (k_X3_inKiln l hW hN ) (isWS_in hW 2 (Nat.le_of_ble_eq_true rfl)) (isWS_2 hW) rfl (cwV 0 C.2.2.2.2.1 gX5_fireKiln_X3_inKiln rfl rfl rfl kdV_X3_inKiln ⟨Nat.le_of_ble_eq_true rfl, Nat.le_of_ble_eq_true rfl⟩) rfl rfl (Nat.le_of_ble_eq_true rfl) ⟨Nat.le_of_ble_eq_true rfl, Nat.le_of_ble_eq_true rfl⟩ dX5_fireKiln_14 ?_
    refine gx_istore_n C (i := 2) [(2, _), (0, _), (1, _)] dX5_fireKiln_17 rfl (by decide) rfl ?_
    refine gx_iload_n (q := 0) C dX5_fireKiln_18 rfl ?_
    refine gx_if_ne (tgt := 25) C dX5_fireKiln_19 (by decide) (fun c_19 => ?_) (fun c_19 => ?_)
    · skip
      refine gx_aload_n (q := 1) C dX5_fireKiln_25 rfl ?_
      refine gx_iconst (v := 4) C dX5_fireKiln_26 (by decide) ?_
      refine gx_iload_n (q := 2) C dX5_fireKiln_27 rfl ?_
      refine gx_callR C (k_X5_firedTo l hW hN _ _) (isWS_in hW 0 (Nat.le_of_ble_eq_true rfl)) (isWS_0 hW) rfl (cwV 2 C.2.2.2.2.1 gX5_fireKiln_X5_firedTo rfl rfl rfl kdV_X5_firedTo ⟨Nat.le_of_ble_eq_true rfl, Nat.le_of_ble_eq_true rfl⟩) rfl rfl (Nat.le_of_ble_eq_true rfl) ⟨Nat.le_of_ble_eq_true rfl, Nat.le_of_ble_eq_true rfl⟩ dX5_fireKiln_28 ?_
      refine gx_callRS C (k_J6_bitCount_0f7a4 l (k := k) (L := L) _) (va_cwS 1 C.2.2.2.2.1 gX5_fireKiln_J6_bitCount_0f7a4 rfl rfl rfl kdN_J6_bitCount_0f7a4 ⟨Nat.le_of_ble_eq_true rfl, Nat.le_of_ble_eq_true rfl⟩) rfl rfl (Nat.le_of_ble_eq_true rfl) ⟨Nat.le_of_ble_eq_true rfl, Nat.le_of_ble_eq_true rfl⟩ dX5_fireKiln_31 ?_
      refine gx_istore_n C (i := 3) [(3, _), (2, _), (0, _), (1, _)] dX5_fireKiln_34 rfl (by decide) rfl ?_
      refine gx_iload_n (q := 1) C dX5_fireKiln_35 rfl ?_
      refine gx_callRS C (k_J6_bitCount_0f7a4 l (k := k) (L := L) _) (va_cwS 1 C.2.2.2.2.1 gX5_fireKiln_J6_bitCount_0f7a4 rfl rfl rfl kdN_J6_bitCount_0f7a4 ⟨Nat.le_of_ble_eq_true rfl, Nat.le_of_ble_eq_true rfl⟩) rfl rfl (Nat.le_of_ble_eq_true rfl) ⟨Nat.le_of_ble_eq_true rfl, Nat.le_of_ble_eq_true rfl⟩ dX5_fireKiln_36 ?_
      refine gx_iload_n (q := 0) C dX5_fireKiln_39 rfl ?_
      refine gx_isub C dX5_fireKiln_40 ?_
      refine gx_aload_n (q := 2) C dX5_fireKiln_41 rfl ?_
      refine gx_get C (i := 2) (isWS_in hW 0 (Nat.le_of_ble_eq_true rfl)) (isWS_0 hW) rfl in_X5_fireKiln_5 (by decide) fl_X5_fireKiln_30 rfl dX5_fireKiln_42 ?_
      refine gx_callR C (k_X3_freePlaces l hW hN ) (isWS_in hW 2 (Nat.le_of_ble_eq_true rfl)) (isWS_2 hW) rfl (cwV 0 C.2.2.2.2.1 gX5_fireKiln_X3_freePlaces rfl rfl rfl kdV_X3_freePlaces ⟨Nat.le_of_ble_eq_true rfl, Nat.le_of_ble_eq_true rfl⟩) rfl rfl (Nat.le_of_ble_eq_true rfl) ⟨Nat.le_of_ble_eq_true rfl, Nat.le_of_ble_eq_true rfl⟩ dX5_fireKiln_45 ?_
      refine gx_icmp_le (tgt := 54) C dX5_fireKiln_48 (by decide) (fun c_48 => ?_) (fun c_48 => ?_)
      · skip
        refine gx_iconst (v := 0) C dX5_fireKiln_54 (by decide) ?_
        refine gx_istore C [(4, _), (3, _), (2, _), (0, _), (1, _)] dX5_fireKiln_55 (by decide) rfl ?_
        refine gx_loop (σ := Nat × (Nat → va_E)) (fun z => z.2) (fun z => [(0, .ref (a 0)), (1, .int heat), (2, .int (cInKiln w)), (3, .int (cBreaking w heat)), (4, .int (nI z.1))]) (fun z => z.1 ≤ wN w ∧ isWS k L z.2 a (cFireN w heat z.1) ∧ gFr a 27 f z.2) (fun z => wN w - z.1) (0, _) [3, 4, 2, 1, 0] rfl rfl ?_ ?_
        · exact ⟨Nat.zero_le _, hW, (gFr_rf (f := f))⟩
        intro ⟨i, fi⟩ ⟨hI, hWi, hFi⟩ ih
        try dsimp only at hI hWi hFi ih ⊢
        refine gx_iload (q := 4) C dX5_fireKiln_57 rfl ?_
        refine gx_aload_n (q := 0) C dX5_fireKiln_59 rfl ?_
        refine gx_get C (i := 2) (isWS_in hWi 0 (Nat.le_of_ble_eq_true rfl)) (isWS_0 hWi) rfl in_X5_fireKiln_5 (by decide) fl_X5_fireKiln_30 rfl dX5_fireKiln_60 ?_
        refine gx_getN C (i := 8) (isWS_in hWi 2 (Nat.le_of_ble_eq_true rfl)) (isWS_2 hWi) rfl in_X5_fireKiln_3 (by decide) (by decide +kernel) rfl dX5_fireKiln_63 ?_
        refine gx_top (nI (wN w)) (by rw [cFireN_n]; exact hN.1) ?_
        refine gx_icmp_ge (tgt := 94) C dX5_fireKiln_66 (by decide) (fun c_66 => ?_) (fun c_66 => ?_)
        · skip
          have hb : i = wN w := Nat.le_antisymm hI ((nI_leI (by have := hN.2; omega) (by have := hN.2; omega)).mp c_66)
          refine gx_aload_n (q := 0) C dX5_fireKiln_94 rfl ?_
          refine gx_dup C rfl dX5_fireKiln_95 ?_
          refine gx_get C (i := 7) (isWS_in hWi 0 (Nat.le_of_ble_eq_true rfl)) (isWS_0 hWi) rfl in_X5_fireKiln_5 (by decide) fl_X5_fireKiln_61 rfl dX5_fireKiln_96 ?_
          refine gx_iconst (v := 1) C dX5_fireKiln_99 (by decide) ?_
          refine gx_iadd C dX5_fireKiln_100 ?_
          refine gx_put C hD (i := 7) (ty := .int) tyX5_ok nmX5 (isWS_in hWi 0 (Nat.le_of_ble_eq_true rfl)) (isWS_0 hWi) rfl in_X5_fireKiln_5 (by decide) fl_X5_fireKiln_61 rfl (by decide +kernel) rfl rfl (Nat.le_of_ble_eq_true rfl) rfl dX5_fireKiln_101 ?_
          refine gx_w5 hWi hFi (fun f_1 hW_1 hF_1 => ?_)
          refine gx_iload_n (q := 3) C dX5_fireKiln_104 rfl ?_
          exact gx_iretW C hr hW_1 hF_1 dX5_fireKiln_105 (by exact ((if_pos h_4).trans ((if_neg c_19).trans (if_pos c_48))).symm) (by subst hb; exact ((if_pos h_4).trans ((if_neg c_19).trans (if_pos c_48))).symm)
        · skip
          have hlt : i < wN w := Nat.lt_of_not_le (fun z => c_66 ((nI_leI (by have := hN.2; omega) (by have := hN.2; omega)).mpr z))
          refine gx_aload_n (q := 0) C dX5_fireKiln_69 rfl ?_
          refine gx_get C (i := 2) (isWS_in hWi 0 (Nat.le_of_ble_eq_true rfl)) (isWS_0 hWi) rfl in_X5_fireKiln_5 (by decide) fl_X5_fireKiln_30 rfl dX5_fireKiln_70 ?_
          refine gx_iload (q := 4) C dX5_fireKiln_73 rfl ?_
          refine gx_callR C (k_X3_isInKiln l hWi _) (isWS_in hWi 2 (Nat.le_of_ble_eq_true rfl)) (isWS_2 hWi) rfl (cwV 1 C.2.2.2.2.1 gX5_fireKiln_X3_isInKiln rfl rfl rfl kdV_X3_isInKiln ⟨Nat.le_of_ble_eq_true rfl, Nat.le_of_ble_eq_true rfl⟩) rfl rfl (Nat.le_of_ble_eq_true rfl) ⟨Nat.le_of_ble_eq_true rfl, Nat.le_of_ble_eq_true rfl⟩ dX5_fireKiln_75 ?_
          refine gx_if_eq (tgt := 88) C dX5_fireKiln_78 (by decide) (fun c_78 => ?_) (fun c_78 => ?_)
          · skip
            have h_78 := bI0.mp c_78
            refine gx_iinc C (q := 4) (v := nI (i + 1)) [(4, _), (0, _), (1, _), (2, _), (3, _)] dX5_fireKiln_88 rfl (nI_inc i) (by decide) rfl ?_
            refine gx_goto (tgt := 57) C dX5_fireKiln_91 (by decide) ?_
            have hst : cFireN w heat (i + 1) = cFireN w heat i := if_neg (bF h_78)
            exact gx_back [1, 2, 3, 4, 0] (ih (i + 1, _) ⟨by omega, (by rw [hst]; exact hWi), hFi⟩ (by show wN w - (i + 1) < wN w - i; omega)) rfl (by rfl)
          · skip
            have h_78 := bI1.mp c_78
            refine gx_aload_n (q := 0) C dX5_fireKiln_81 rfl ?_
            refine gx_iload (q := 4) C dX5_fireKiln_82 rfl ?_
            refine gx_iload_n (q := 1) C dX5_fireKiln_84 rfl ?_
            refine gx_callWv C hD hFi (k_X5_firePot l hL hWi (cFireN_ok hN heat i) _ _) (isWS_in hWi 0 (Nat.le_of_ble_eq_true rfl)) (isWS_0 hWi) rfl (cwV 2 C.2.2.2.2.1 gX5_fireKiln_X5_firePot rfl rfl rfl kdV_X5_firePot ⟨Nat.le_of_ble_eq_true rfl, Nat.le_of_ble_eq_true rfl⟩) rfl rfl (Nat.le_of_ble_eq_true rfl) ⟨Nat.le_of_ble_eq_true rfl, Nat.le_of_ble_eq_true rfl⟩ dX5_fireKiln_85 (fun f_2 hW_2 hF_2 => ?_)
            refine gx_iinc C (q := 4) (v := nI (i + 1)) [(4, _), (0, _), (1, _), (2, _), (3, _)] dX5_fireKiln_88 rfl (nI_inc i) (by decide) rfl ?_
            refine gx_goto (tgt := 57) C dX5_fireKiln_91 (by decide) ?_
            have hst : cFireN w heat (i + 1) = wX5_firePot (cFireN w heat i) (nI i) heat := if_pos h_78
            exact gx_back [1, 2, 3, 4, 0] (ih (i + 1, _) ⟨by omega, (by rw [hst]; exact hW_2), hF_2⟩ (by show wN w - (i + 1) < wN w - i; omega)) rfl (by rfl)
      · skip
        refine gx_bipush (v := (-4)) C dX5_fireKiln_51 (by decide) ?_
        exact gx_iretW C hr hW (gFr_rf (f := f)) dX5_fireKiln_53 (by exact ((if_pos h_4).trans ((if_neg c_19).trans ((if_neg c_48).trans (rfl)))).symm) (by exact ((if_pos h_4).trans ((if_neg c_19).trans ((if_neg c_48).trans (rfl)))).symm)
    · skip
      refine gx_bipush (v := (-5)) C dX5_fireKiln_22 (by decide) ?_
      exact gx_iretW C hr hW (gFr_rf (f := f)) dX5_fireKiln_24 (by exact ((if_pos h_4).trans ((if_pos c_19).trans (rfl))).symm) (by exact ((if_pos h_4).trans ((if_pos c_19).trans (rfl))).symm)
  · skip
    have h_4 := bI0.mp c_4
    refine gx_bipush (v := (-2)) C dX5_fireKiln_7 (by decide) ?_
    exact gx_iretW C hr hW (gFr_rf (f := f)) dX5_fireKiln_9 (by exact ((if_neg (bF h_4)).trans (rfl)).symm) (by exact ((if_neg (bF h_4)).trans (rfl)).symm)
theorem kdN_X5_outcomeOfFiring : yX5_outcomeOfFiring.cls ≠ "java/lang/invoke/MethodHandle" ∧ yX5_outcomeOfFiring.cls ≠ "java/lang/invoke/VarHandle" ∧ (parseMethodDescriptor yX5_outcomeOfFiring.desc).map (fun d => d.parameters.length) = some 2 := by decide +kernel
theorem kdV_X5_outcomeOfFiring : yX5_outcomeOfFiring.cls = RX5 ∧ yX5_outcomeOfFiring.cls ≠ "java/lang/invoke/MethodHandle" ∧ yX5_outcomeOfFiring.cls ≠ "java/lang/invoke/VarHandle" ∧ (parseMethodDescriptor yX5_outcomeOfFiring.desc).map (fun d => d.parameters.length) = some 2 := ⟨rfl, kdN_X5_outcomeOfFiring⟩
def vX5_outcomeOfFiring (w : WS) (heat : Int32) (what : Int32) : Int32 := (if (isW heat 80 140) = true then (if what = 0 then (cFiredTo w 4 heat) else (if what = 1 then (cFiredTo w 1 heat) else (if what = 2 then (cFiredTo w 3 heat) else (if what = 3 then ((cFiredTo w 0 heat) ||| (cFiredTo w 2 heat)) else (-2))))) else (-2))
theorem wd_X5_outcomeOfFiring_ini_RX6 : Cond.initialized RX6 ∈ wsX5_outcomeOfFiring := by decide +kernel
theorem wd_X5_outcomeOfFiring_st_X6_isHeat : Cond.static yX6_isHeat ∈ wsX5_outcomeOfFiring := by decide +kernel
abbrev rmX5_outcomeOfFiring : Room := { frames := 4, cells := 0, slots := 0, locals := 91 }
set_option maxHeartbeats 4000000 in
set_option maxRecDepth 100000 in
theorem k_X5_outcomeOfFiring (l : Launch) {k : gK} {L : List Nat} {f : Nat → va_E} {a : Nat → Nat} {w : WS} (hW : isWS k L f a w) (hN : wOK w) (heat : Int32) (what : Int32) : kR l k L f yX5_outcomeOfFiring wsX5_outcomeOfFiring rmX5_outcomeOfFiring [.ref (a 0), .int heat, .int what] (.int (vX5_outcomeOfFiring w heat what)) := by
  refine kR_of (cc := cX5_outcomeOfFiring) (maxL := 3) (ret := (some .int)) (by decide) rfl (Nat.le_of_ble_eq_true rfl) ?_
  intro p e s m args below meth c C hr
  refine gx_lv [(0, _), (1, _), (2, _)] [0, 1, 2] rfl ?_
  refine gx_iload_n (q := 1) C dX5_outcomeOfFiring_0 rfl ?_
  refine gx_callRN C (k_X6_isHeat l (k := k) (L := L) _) ⟨va_cnB 1 C.2.2.2.2.1 gX5_outcomeOfFiring_X6_isHeat_n197 rfl rfl rfl (C.2.2.2.2.2.1.2.2 (RX5, 197, yX6_isHeat) (by decide +kernel)) (C.2.2.2.2.1 _ wd_X5_outcomeOfFiring_ini_RX6) kdN_X6_isHeat ⟨Nat.le_of_ble_eq_true rfl, Nat.le_of_ble_eq_true rfl⟩, C.2.2.2.2.1 _ wd_X5_outcomeOfFiring_st_X6_isHeat, trivial⟩ rfl rfl (Nat.le_of_ble_eq_true rfl) ⟨Nat.le_of_ble_eq_true rfl, Nat.le_of_ble_eq_true rfl⟩ dX5_outcomeOfFiring_1 ?_
  refine gx_if_ne (tgt := 10) C dX5_outcomeOfFiring_4 (by decide) (fun c_4 => ?_) (fun c_4 => ?_)
  · skip
    have h_4 := bI1.mp c_4
    refine gx_iload_n (q := 2) C dX5_outcomeOfFiring_10 rfl ?_
    refine gsw_split 0 3 what ?_ ?_
    · intro sw_11
      refine gx_tableOut (tgt := 75) C dX5_outcomeOfFiring_11 sw_11 (by decide) ?_
      have n11_0 : ¬ what = 0 := gsw_ne sw_11 (by decide)
      have n11_1 : ¬ what = 1 := gsw_ne sw_11 (by decide)
      have n11_2 : ¬ what = 2 := gsw_ne sw_11 (by decide)
      have n11_3 : ¬ what = 3 := gsw_ne sw_11 (by decide)
      refine gx_bipush (v := (-2)) C dX5_outcomeOfFiring_75 (by decide) ?_
      exact gx_iretR C rfl hr dX5_outcomeOfFiring_77 (congrArg Value.int ((if_pos h_4).trans ((if_neg n11_0).trans ((if_neg n11_1).trans ((if_neg n11_2).trans ((if_neg n11_3).trans (rfl)))))).symm)
    · intro j hj1 hj2 sw_11
      obtain rfl | rfl | rfl | rfl : j = 0 ∨ j = 1 ∨ j = 2 ∨ j = 3 := by omega
      · skip
        refine gx_tableIn (off := 29) (tgt := 40) C dX5_outcomeOfFiring_11 (by rw [sw_11]; decide) (by rw [sw_11]; decide) (by rw [sw_11]; rfl) (by decide) ?_
        have e11_0 : what = 0 := gsw_eq sw_11 (by decide)
        refine gx_aload_n (q := 0) C dX5_outcomeOfFiring_40 rfl ?_
        refine gx_iconst (v := 4) C dX5_outcomeOfFiring_41 (by decide) ?_
        refine gx_iload_n (q := 1) C dX5_outcomeOfFiring_42 rfl ?_
        refine gx_callR C (k_X5_firedTo l hW hN _ _) (isWS_in hW 0 (Nat.le_of_ble_eq_true rfl)) (isWS_0 hW) rfl (cwV 2 C.2.2.2.2.1 gX5_outcomeOfFiring_X5_firedTo rfl rfl rfl kdV_X5_firedTo ⟨Nat.le_of_ble_eq_true rfl, Nat.le_of_ble_eq_true rfl⟩) rfl rfl (Nat.le_of_ble_eq_true rfl) ⟨Nat.le_of_ble_eq_true rfl, Nat.le_of_ble_eq_true rfl⟩ dX5_outcomeOfFiring_43 ?_
        exact gx_iretR C rfl hr dX5_outcomeOfFiring_46 (congrArg Value.int ((if_pos h_4).trans ((if_pos e11_0).trans (rfl))).symm)
      · skip
        refine gx_tableIn (off := 36) (tgt := 47) C dX5_outcomeOfFiring_11 (by rw [sw_11]; decide) (by rw [sw_11]; decide) (by rw [sw_11]; rfl) (by decide) ?_
        have e11_1 : what = 1 := gsw_eq sw_11 (by decide)
        have n11_0 : ¬ what = 0 := gsw_n2 e11_1 (by decide)
        refine gx_aload_n (q := 0) C dX5_outcomeOfFiring_47 rfl ?_
        refine gx_iconst (v := 1) C dX5_outcomeOfFiring_48 (by decide) ?_
        refine gx_iload_n (q := 1) C dX5_outcomeOfFiring_49 rfl ?_
        refine gx_callR C (k_X5_firedTo l hW hN _ _) (isWS_in hW 0 (Nat.le_of_ble_eq_true rfl)) (isWS_0 hW) rfl (cwV 2 C.2.2.2.2.1 gX5_outcomeOfFiring_X5_firedTo rfl rfl rfl kdV_X5_firedTo ⟨Nat.le_of_ble_eq_true rfl, Nat.le_of_ble_eq_true rfl⟩) rfl rfl (Nat.le_of_ble_eq_true rfl) ⟨Nat.le_of_ble_eq_true rfl, Nat.le_of_ble_eq_true rfl⟩ dX5_outcomeOfFiring_50 ?_
        exact gx_iretR C rfl hr dX5_outcomeOfFiring_53 (congrArg Value.int ((if_pos h_4).trans ((if_neg n11_0).trans ((if_pos e11_1).trans (rfl)))).symm)
      · skip
        refine gx_tableIn (off := 43) (tgt := 54) C dX5_outcomeOfFiring_11 (by rw [sw_11]; decide) (by rw [sw_11]; decide) (by rw [sw_11]; rfl) (by decide) ?_
        have e11_2 : what = 2 := gsw_eq sw_11 (by decide)
        have n11_0 : ¬ what = 0 := gsw_n2 e11_2 (by decide)
        have n11_1 : ¬ what = 1 := gsw_n2 e11_2 (by decide)
        refine gx_aload_n (q := 0) C dX5_outcomeOfFiring_54 rfl ?_
        refine gx_iconst (v := 3) C dX5_outcomeOfFiring_55 (by decide) ?_
        refine gx_iload_n (q := 1) C dX5_outcomeOfFiring_56 rfl ?_
        refine gx_callR C (k_X5_firedTo l hW hN _ _) (isWS_in hW 0 (Nat.le_of_ble_eq_true rfl)) (isWS_0 hW) rfl (cwV 2 C.2.2.2.2.1 gX5_outcomeOfFiring_X5_firedTo rfl rfl rfl kdV_X5_firedTo ⟨Nat.le_of_ble_eq_true rfl, Nat.le_of_ble_eq_true rfl⟩) rfl rfl (Nat.le_of_ble_eq_true rfl) ⟨Nat.le_of_ble_eq_true rfl, Nat.le_of_ble_eq_true rfl⟩ dX5_outcomeOfFiring_57 ?_
        exact gx_iretR C rfl hr dX5_outcomeOfFiring_60 (congrArg Value.int ((if_pos h_4).trans ((if_neg n11_0).trans ((if_neg n11_1).trans ((if_pos e11_2).trans (rfl))))).symm)
      · skip
        refine gx_tableIn (off := 50) (tgt := 61) C dX5_outcomeOfFiring_11 (by rw [sw_11]; decide) (by rw [sw_11]; decide) (by rw [sw_11]; rfl) (by decide) ?_
        have e11_3 : what = 3 := gsw_eq sw_11 (by decide)
        have n11_0 : ¬ what = 0 := gsw_n2 e11_3 (by decide)
        have n11_1 : ¬ what = 1 := gsw_n2 e11_3 (by decide)
        have n11_2 : ¬ what = 2 := gsw_n2 e11_3 (by decide)
        refine gx_aload_n (q := 0) C dX5_outcomeOfFiring_61 rfl ?_
        refine gx_iconst (v := 0) C dX5_outcomeOfFiring_62 (by decide) ?_
        refine gx_iload_n (q := 1) C dX5_outcomeOfFiring_63 rfl ?_
        refine gx_callR C (k_X5_firedTo l hW hN _ _) (isWS_in hW 0 (Nat.le_of_ble_eq_true rfl)) (isWS_0 hW) rfl (cwV 2 C.2.2.2.2.1 gX5_outcomeOfFiring_X5_firedTo rfl rfl rfl kdV_X5_firedTo ⟨Nat.le_of_ble_eq_true rfl, Nat.le_of_ble_eq_true rfl⟩) rfl rfl (Nat.le_of_ble_eq_true rfl) ⟨Nat.le_of_ble_eq_true rfl, Nat.le_of_ble_eq_true rfl⟩ dX5_outcomeOfFiring_64 ?_
        refine gx_aload_n (q := 0) C dX5_outcomeOfFiring_67 rfl ?_
        refine gx_iconst (v := 2) C dX5_outcomeOfFiring_68 (by decide) ?_
        refine gx_iload_n (q := 1) C dX5_outcomeOfFiring_69 rfl ?_
        refine gx_callR C (k_X5_firedTo l hW hN _ _) (isWS_in hW 0 (Nat.le_of_ble_eq_true rfl)) (isWS_0 hW) rfl (cwV 2 C.2.2.2.2.1 gX5_outcomeOfFiring_X5_firedTo rfl rfl rfl kdV_X5_firedTo ⟨Nat.le_of_ble_eq_true rfl, Nat.le_of_ble_eq_true rfl⟩) rfl rfl (Nat.le_of_ble_eq_true rfl) ⟨Nat.le_of_ble_eq_true rfl, Nat.le_of_ble_eq_true rfl⟩ dX5_outcomeOfFiring_70 ?_
        refine gx_ior C dX5_outcomeOfFiring_73 ?_
        exact gx_iretR C rfl hr dX5_outcomeOfFiring_74 (congrArg Value.int ((if_pos h_4).trans ((if_neg n11_0).trans ((if_neg n11_1).trans ((if_neg n11_2).trans ((if_pos e11_3).trans (rfl)))))).symm)
  · skip
    have h_4 := bI0.mp c_4
    refine gx_bipush (v := (-2)) C dX5_outcomeOfFiring_7 (by decide) ?_
    exact gx_iretR C rfl hr dX5_outcomeOfFiring_9 (congrArg Value.int ((if_neg (bF h_4)).trans (rfl)).symm)
theorem kdN_X5_scoreOf : yX5_scoreOf.cls ≠ "java/lang/invoke/MethodHandle" ∧ yX5_scoreOf.cls ≠ "java/lang/invoke/VarHandle" ∧ (parseMethodDescriptor yX5_scoreOf.desc).map (fun d => d.parameters.length) = some 1 := by decide +kernel
theorem kdV_X5_scoreOf : yX5_scoreOf.cls = RX5 ∧ yX5_scoreOf.cls ≠ "java/lang/invoke/MethodHandle" ∧ yX5_scoreOf.cls ≠ "java/lang/invoke/VarHandle" ∧ (parseMethodDescriptor yX5_scoreOf.desc).map (fun d => d.parameters.length) = some 1 := ⟨rfl, kdN_X5_scoreOf⟩
def cScN (w : WS) (heat : Int32) : Nat → Int32
  | 0 => 0
  | n + 1 => if cKiln w (nI n) = true then (if cFired w (nI n) heat (rAt 4 (w.1 0) 2) = 4 then cScN w heat n + (-1) else if cFired w (nI n) heat (rAt 4 (w.1 0) 2) = rAt 20 (w.1 5) (nI n) + 1 then cScN w heat n + 21 else cScN w heat n) else cScN w heat n
def cScore (w : WS) (heat : Int32) : Int32 := cScN w heat (wN w)
theorem in_X5_scoreOf_5 : ∀ w ∈ u_ws RX5 TX5 8, w ∈ wsX5_scoreOf := by decide +kernel
theorem fl_X5_scoreOf_30 : Cond.fieldLink RX5 30 (TX5 2).1 (TX5 2).2.1 (TX5 2).2.2.1 ∈ wsX5_scoreOf := by decide +kernel
theorem in_X5_scoreOf_3 : ∀ w ∈ u_ws RX3 TX3 9, w ∈ wsX5_scoreOf := by decide +kernel
theorem fl_X5_scoreOf_14 : Cond.fieldLink RX5 14 (TX5 0).1 (TX5 0).2.1 (TX5 0).2.2.1 ∈ wsX5_scoreOf := by decide +kernel
abbrev rmX5_scoreOf : Room := { frames := 3, cells := 0, slots := 0, locals := 67 }
set_option maxHeartbeats 4000000 in
set_option maxRecDepth 100000 in
theorem k_X5_scoreOf (l : Launch) {k : gK} {L : List Nat} {f : Nat → va_E} {a : Nat → Nat} {w : WS} (hW : isWS k L f a w) (hN : wOK w) (heat : Int32) : kR l k L f yX5_scoreOf wsX5_scoreOf rmX5_scoreOf [.ref (a 0), .int heat] (.int (cScore w heat)) := by
  refine kR_of (cc := cX5_scoreOf) (maxL := 5) (ret := (some .int)) (by decide) rfl (Nat.le_of_ble_eq_true rfl) ?_
  intro p e s m args below meth c C hr
  refine gx_lv [(0, _), (1, _)] [0, 1] rfl ?_
  refine gx_iconst (v := 0) C dX5_scoreOf_0 (by decide) ?_
  refine gx_istore_n C (i := 2) [(2, _), (0, _), (1, _)] dX5_scoreOf_1 rfl (by decide) rfl ?_
  refine gx_iconst (v := 0) C dX5_scoreOf_2 (by decide) ?_
  refine gx_istore_n C (i := 3) [(3, _), (2, _), (0, _), (1, _)] dX5_scoreOf_3 rfl (by decide) rfl ?_
  refine gx_loop (σ := Nat) (fun i => f) (fun i => [(0, .ref (a 0)), (1, .int heat), (2, .int (cScN w heat i)), (3, .int (nI i))]) (fun i => i ≤ wN w) (fun i => wN w - i) 0 [2, 3, 1, 0] rfl rfl ?_ ?_
  · exact Nat.zero_le _
  intro i hI ih
  try dsimp only at hI ih ⊢
  have h20 := hN.2
  refine gx_iload_n (q := 3) C dX5_scoreOf_4 rfl ?_
  refine gx_aload_n (q := 0) C dX5_scoreOf_5 rfl ?_
  refine gx_get C (i := 2) (isWS_in hW 0 (Nat.le_of_ble_eq_true rfl)) (isWS_0 hW) rfl in_X5_scoreOf_5 (by decide) fl_X5_scoreOf_30 rfl dX5_scoreOf_6 ?_
  refine gx_getN C (i := 8) (isWS_in hW 2 (Nat.le_of_ble_eq_true rfl)) (isWS_2 hW) rfl in_X5_scoreOf_3 (by decide) (by decide +kernel) rfl dX5_scoreOf_9 ?_
  refine gx_top (nI (wN w)) hN.1 ?_
  refine gx_icmp_ge (tgt := 87) C dX5_scoreOf_12 (by decide) (fun c_12 => ?_) (fun c_12 => ?_)
  · skip
    have hb := (nI_leI (by omega) (by omega)).mp c_12
    refine gx_iload_n (q := 2) C dX5_scoreOf_87 rfl ?_
    exact gx_iretR C rfl hr dX5_scoreOf_88 (congrArg Value.int (by rw [show i = wN w by omega]; rfl))
  · skip
    have hlt : i < wN w := Nat.lt_of_not_le (fun z => c_12 ((nI_leI (by omega) (by omega)).mpr z))
    refine gx_aload_n (q := 0) C dX5_scoreOf_15 rfl ?_
    refine gx_get C (i := 2) (isWS_in hW 0 (Nat.le_of_ble_eq_true rfl)) (isWS_0 hW) rfl in_X5_scoreOf_5 (by decide) fl_X5_scoreOf_30 rfl dX5_scoreOf_16 ?_
    refine gx_iload_n (q := 3) C dX5_scoreOf_19 rfl ?_
    refine gx_callR C (k_X3_isInKiln l hW _) (isWS_in hW 2 (Nat.le_of_ble_eq_true rfl)) (isWS_2 hW) rfl (cwV 1 C.2.2.2.2.1 gX5_scoreOf_X3_isInKiln rfl rfl rfl kdV_X3_isInKiln ⟨Nat.le_of_ble_eq_true rfl, Nat.le_of_ble_eq_true rfl⟩) rfl rfl (Nat.le_of_ble_eq_true rfl) ⟨Nat.le_of_ble_eq_true rfl, Nat.le_of_ble_eq_true rfl⟩ dX5_scoreOf_20 ?_
    refine gx_if_ne (tgt := 29) C dX5_scoreOf_23 (by decide) (fun c_23 => ?_) (fun c_23 => ?_)
    · skip
      have h_23 := bI1.mp c_23
      refine gx_aload_n (q := 0) C dX5_scoreOf_29 rfl ?_
      refine gx_get C (i := 2) (isWS_in hW 0 (Nat.le_of_ble_eq_true rfl)) (isWS_0 hW) rfl in_X5_scoreOf_5 (by decide) fl_X5_scoreOf_30 rfl dX5_scoreOf_30 ?_
      refine gx_iload_n (q := 3) C dX5_scoreOf_33 rfl ?_
      refine gx_iload_n (q := 1) C dX5_scoreOf_34 rfl ?_
      refine gx_aload_n (q := 0) C dX5_scoreOf_35 rfl ?_
      refine gx_get C (i := 0) (isWS_in hW 0 (Nat.le_of_ble_eq_true rfl)) (isWS_0 hW) rfl in_X5_scoreOf_5 (by decide) fl_X5_scoreOf_14 rfl dX5_scoreOf_36 ?_
      refine gx_iconst (v := 2) C dX5_scoreOf_39 (by decide) ?_
      refine gx_callR C (kw_X4_at l hW 0 (Nat.le_of_ble_eq_true rfl) 4 rfl _) (isWS_in hW 3 (Nat.le_of_ble_eq_true rfl)) (isWS_row hW 0 (Nat.le_of_ble_eq_true rfl)) rfl (cwV 1 C.2.2.2.2.1 gX5_scoreOf_X4_at rfl rfl rfl kdV_X4_at ⟨Nat.le_of_ble_eq_true rfl, Nat.le_of_ble_eq_true rfl⟩) rfl rfl (Nat.le_of_ble_eq_true rfl) ⟨Nat.le_of_ble_eq_true rfl, Nat.le_of_ble_eq_true rfl⟩ dX5_scoreOf_40 ?_
      refine gx_callR C (k_X3_kindFired l hW _ _ _) (isWS_in hW 2 (Nat.le_of_ble_eq_true rfl)) (isWS_2 hW) rfl (cwV 3 C.2.2.2.2.1 gX5_scoreOf_X3_kindFired rfl rfl rfl kdV_X3_kindFired ⟨Nat.le_of_ble_eq_true rfl, Nat.le_of_ble_eq_true rfl⟩) rfl rfl (Nat.le_of_ble_eq_true rfl) ⟨Nat.le_of_ble_eq_true rfl, Nat.le_of_ble_eq_true rfl⟩ dX5_scoreOf_43 ?_
      refine gx_istore C [(4, _), (0, _), (1, _), (2, _), (3, _)] dX5_scoreOf_46 (by decide) rfl ?_
      refine gx_iload (q := 0) C dX5_scoreOf_48 rfl ?_
      refine gx_iconst (v := 4) C dX5_scoreOf_50 (by decide) ?_
      refine gx_icmp_ne (tgt := 60) C dX5_scoreOf_51 (by decide) (fun c_51 => ?_) (fun c_51 => ?_)
      · skip
        refine gx_iload (q := 0) C dX5_scoreOf_60 rfl ?_
        refine gx_aload_n (q := 1) C dX5_scoreOf_62 rfl ?_
        refine gx_get C (i := 2) (isWS_in hW 0 (Nat.le_of_ble_eq_true rfl)) (isWS_0 hW) rfl in_X5_scoreOf_5 (by decide) fl_X5_scoreOf_30 rfl dX5_scoreOf_63 ?_
        refine gx_getN C (i := 3) (isWS_in hW 2 (Nat.le_of_ble_eq_true rfl)) (isWS_2 hW) rfl in_X5_scoreOf_3 (by decide) (by decide +kernel) rfl dX5_scoreOf_66 ?_
        refine gx_iload_n (q := 4) C dX5_scoreOf_69 rfl ?_
        refine gx_callR C (kw_X4_at l hW 5 (Nat.le_of_ble_eq_true rfl) 20 rfl _) (isWS_in hW 13 (Nat.le_of_ble_eq_true rfl)) (isWS_row hW 5 (Nat.le_of_ble_eq_true rfl)) rfl (cwV 1 C.2.2.2.2.1 gX5_scoreOf_X4_at rfl rfl rfl kdV_X4_at ⟨Nat.le_of_ble_eq_true rfl, Nat.le_of_ble_eq_true rfl⟩) rfl rfl (Nat.le_of_ble_eq_true rfl) ⟨Nat.le_of_ble_eq_true rfl, Nat.le_of_ble_eq_true rfl⟩ dX5_scoreOf_70 ?_
        refine gx_iconst (v := 1) C dX5_scoreOf_73 (by decide) ?_
        refine gx_iadd C dX5_scoreOf_74 ?_
        refine gx_icmp_ne (tgt := 81) C dX5_scoreOf_75 (by decide) (fun c_75 => ?_) (fun c_75 => ?_)
        · skip
          refine gx_iinc C (q := 4) (v := nI (i + 1)) [(3, _), (4, _), (0, _), (1, _), (2, _)] dX5_scoreOf_81 rfl (nI_inc i) (by decide) rfl ?_
          refine gx_goto (tgt := 4) C dX5_scoreOf_84 (by decide) ?_
          exact gx_back [2, 3, 4, 0] (ih (i + 1) (by omega) (by omega)) rfl (by rw [show cScN w heat (i + 1) = _ from (if_pos h_23).trans ((if_neg c_51).trans (if_neg c_75))]; rfl)
        · skip
          refine gx_iinc C (q := 3) (v := (cScN w heat i + 21)) [(2, _), (4, _), (0, _), (1, _), (3, _)] dX5_scoreOf_78 rfl rfl (by decide) rfl ?_
          refine gx_iinc C (q := 4) (v := nI (i + 1)) [(3, _), (2, _), (4, _), (0, _), (1, _)] dX5_scoreOf_81 rfl (nI_inc i) (by decide) rfl ?_
          refine gx_goto (tgt := 4) C dX5_scoreOf_84 (by decide) ?_
          exact gx_back [3, 4, 1, 0] (ih (i + 1) (by omega) (by omega)) rfl (by rw [show cScN w heat (i + 1) = _ from (if_pos h_23).trans ((if_neg c_51).trans (if_pos c_75))]; rfl)
      · skip
        refine gx_iinc C (q := 3) (v := (cScN w heat i + (-1))) [(2, _), (4, _), (0, _), (1, _), (3, _)] dX5_scoreOf_54 rfl rfl (by decide) rfl ?_
        refine gx_goto (tgt := 81) C dX5_scoreOf_57 (by decide) ?_
        refine gx_iinc C (q := 4) (v := nI (i + 1)) [(3, _), (2, _), (4, _), (0, _), (1, _)] dX5_scoreOf_81 rfl (nI_inc i) (by decide) rfl ?_
        refine gx_goto (tgt := 4) C dX5_scoreOf_84 (by decide) ?_
        exact gx_back [3, 4, 1, 0] (ih (i + 1) (by omega) (by omega)) rfl (by rw [show cScN w heat (i + 1) = _ from (if_pos h_23).trans (if_pos c_51)]; rfl)
    · skip
      have h_23 := bI0.mp c_23
      refine gx_goto (tgt := 81) C dX5_scoreOf_26 (by decide) ?_
      refine gx_iinc C (q := 3) (v := nI (i + 1)) [(3, _), (0, _), (1, _), (2, _)] dX5_scoreOf_81 rfl (nI_inc i) (by decide) rfl ?_
      refine gx_goto (tgt := 4) C dX5_scoreOf_84 (by decide) ?_
      exact gx_back [1, 2, 3, 0] (ih (i + 1) (by omega) (by omega)) rfl (by rw [show cScN w heat (i + 1) = _ from if_neg (bF h_23)]; rfl)
theorem kdN_X5_heatForMostPots : yX5_heatForMostPots.cls ≠ "java/lang/invoke/MethodHandle" ∧ yX5_heatForMostPots.cls ≠ "java/lang/invoke/VarHandle" ∧ (parseMethodDescriptor yX5_heatForMostPots.desc).map (fun d => d.parameters.length) = some 0 := by decide +kernel
theorem kdV_X5_heatForMostPots : yX5_heatForMostPots.cls = RX5 ∧ yX5_heatForMostPots.cls ≠ "java/lang/invoke/MethodHandle" ∧ yX5_heatForMostPots.cls ≠ "java/lang/invoke/VarHandle" ∧ (parseMethodDescriptor yX5_heatForMostPots.desc).map (fun d => d.parameters.length) = some 0 := ⟨rfl, kdN_X5_heatForMostPots⟩
def cBest (w : WS) : Nat → Int32 × Int32
  | 0 => (80, cScore w 80)
  | n + 1 => if cScore w (nI (81 + n)) ≤ (cBest w n).2 then cBest w n else (nI (81 + n), cScore w (nI (81 + n)))
def cBestHeat (w : WS) : Int32 := if cInKiln w = 0 then -6 else (cBest w 60).1
theorem in_X5_heatForMostPots_5 : ∀ w ∈ u_ws RX5 TX5 8, w ∈ wsX5_heatForMostPots := by decide +kernel
theorem fl_X5_heatForMostPots_30 : Cond.fieldLink RX5 30 (TX5 2).1 (TX5 2).2.1 (TX5 2).2.2.1 ∈ wsX5_heatForMostPots := by decide +kernel
abbrev rmX5_heatForMostPots : Room := { frames := 4, cells := 0, slots := 0, locals := 91 }
set_option maxHeartbeats 4000000 in
set_option maxRecDepth 100000 in
theorem k_X5_heatForMostPots (l : Launch) {k : gK} {L : List Nat} {f : Nat → va_E} {a : Nat → Nat} {w : WS} (hW : isWS k L f a w) (hN : wOK w)  : kR l k L f yX5_heatForMostPots wsX5_heatForMostPots rmX5_heatForMostPots [.ref (a 0)] (.int (cBestHeat w)) := by
  refine kR_of (cc := cX5_heatForMostPots) (maxL := 5) (ret := (some .int)) (by decide) rfl (Nat.le_of_ble_eq_true rfl) ?_
  intro p e s m args below meth c C hr
  refine gx_lv [(0, _)] [0] rfl ?_
  refine gx_aload_n (q := 0) C dX5_heatForMostPots_0 rfl ?_
  refine gx_get C (i := 2) (isWS_in hW 0 (Nat.le_of_ble_eq_true rfl)) (isWS_0 hW) rfl in_X5_heatForMostPots_5 (by decide) fl_X5_heatForMostPots_30 rfl dX5_heatForMostPots_1 ?_
  refine gx_callR C (k_X3_inKiln l hW hN ) (isWS_in hW 2 (Nat.le_of_ble_eq_true rfl)) (isWS_2 hW) rfl (cwV 0 C.2.2.2.2.1 gX5_heatForMostPots_X3_inKiln rfl rfl rfl kdV_X3_inKiln ⟨Nat.le_of_ble_eq_true rfl, Nat.le_of_ble_eq_true rfl⟩) rfl rfl (Nat.le_of_ble_eq_true rfl) ⟨Nat.le_of_ble_eq_true rfl, Nat.le_of_ble_eq_true rfl⟩ dX5_heatForMostPots_4 ?_
  refine gx_if_ne (tgt := 13) C dX5_heatForMostPots_7 (by decide) (fun c_7 => ?_) (fun c_7 => ?_)
  · skip
    refine gx_bipush (v := 80) C dX5_heatForMostPots_13 (by decide) ?_
    refine gx_istore_n C (i := 1) [(1, _), (0, _)] dX5_heatForMostPots_15 rfl (by decide) rfl ?_
    refine gx_aload_n (q := 1) C dX5_heatForMostPots_16 rfl ?_
    refine gx_iload_n (q := 0) C dX5_heatForMostPots_17 rfl ?_
    refine gx_callR C (k_X5_scoreOf l hW hN _) (isWS_in hW 0 (Nat.le_of_ble_eq_true rfl)) (isWS_0 hW) rfl (cwV 1 C.2.2.2.2.1 gX5_heatForMostPots_X5_scoreOf rfl rfl rfl kdV_X5_scoreOf ⟨Nat.le_of_ble_eq_true rfl, Nat.le_of_ble_eq_true rfl⟩) rfl rfl (Nat.le_of_ble_eq_true rfl) ⟨Nat.le_of_ble_eq_true rfl, Nat.le_of_ble_eq_true rfl⟩ dX5_heatForMostPots_18 ?_
    refine gx_istore_n C (i := 2) [(2, _), (1, _), (0, _)] dX5_heatForMostPots_21 rfl (by decide) rfl ?_
    refine gx_bipush (v := 81) C dX5_heatForMostPots_22 (by decide) ?_
    refine gx_istore_n C (i := 3) [(3, _), (2, _), (1, _), (0, _)] dX5_heatForMostPots_24 rfl (by decide) rfl ?_
    refine gx_loop (σ := Nat) (fun i => f) (fun i => [(0, .ref (a 0)), (1, .int (cBest w i).1), (2, .int (cBest w i).2), (3, .int (nI (81 + i)))]) (fun i => i ≤ 60) (fun i => 60 - i) 0 [3, 2, 1, 0] rfl rfl ?_ ?_
    · exact Nat.zero_le _
    intro i hI ih
    try dsimp only at hI ih ⊢
    refine gx_iload_n (q := 3) C dX5_heatForMostPots_25 rfl ?_
    refine gx_sipush (v := 140) C dX5_heatForMostPots_26 (by decide) ?_
    refine gx_icmp_gt (tgt := 56) C dX5_heatForMostPots_29 (by decide) (fun c_29 => ?_) (fun c_29 => ?_)
    · skip
      have hb : i = 60 := by have := (nI_ltI (a := 140) (b := 81 + i) (by decide) (by omega)).mp c_29; omega
      refine gx_iload_n (q := 1) C dX5_heatForMostPots_56 rfl ?_
      exact gx_iretR C rfl hr dX5_heatForMostPots_57 (congrArg Value.int (by rw [hb]; exact (if_neg c_7).symm))
    · skip
      have hlt : i < 60 := by have := Nat.le_of_not_lt (fun z => c_29 ((nI_ltI (a := 140) (b := 81 + i) (by decide) (by omega)).mpr z)); omega
      refine gx_aload_n (q := 0) C dX5_heatForMostPots_32 rfl ?_
      refine gx_iload_n (q := 3) C dX5_heatForMostPots_33 rfl ?_
      refine gx_callR C (k_X5_scoreOf l hW hN _) (isWS_in hW 0 (Nat.le_of_ble_eq_true rfl)) (isWS_0 hW) rfl (cwV 1 C.2.2.2.2.1 gX5_heatForMostPots_X5_scoreOf rfl rfl rfl kdV_X5_scoreOf ⟨Nat.le_of_ble_eq_true rfl, Nat.le_of_ble_eq_true rfl⟩) rfl rfl (Nat.le_of_ble_eq_true rfl) ⟨Nat.le_of_ble_eq_true rfl, Nat.le_of_ble_eq_true rfl⟩ dX5_heatForMostPots_34 ?_
      refine gx_istore C [(4, _), (0, _), (1, _), (2, _), (3, _)] dX5_heatForMostPots_37 (by decide) rfl ?_
      refine gx_iload (q := 0) C dX5_heatForMostPots_39 rfl ?_
      refine gx_iload_n (q := 3) C dX5_heatForMostPots_41 rfl ?_
      refine gx_icmp_le (tgt := 50) C dX5_heatForMostPots_42 (by decide) (fun c_42 => ?_) (fun c_42 => ?_)
      · skip
        refine gx_iinc C (q := 4) (v := nI (81 + (i + 1))) [(3, _), (4, _), (0, _), (1, _), (2, _)] dX5_heatForMostPots_50 rfl (nI_inc (81 + i)) (by decide) rfl ?_
        refine gx_goto (tgt := 25) C dX5_heatForMostPots_53 (by decide) ?_
        exact gx_back [2, 3, 4, 0] (ih (i + 1) (by omega) (by omega)) rfl (by rw [show cBest w (i + 1) = _ from if_pos c_42]; rfl)
      · skip
        refine gx_iload_n (q := 4) C dX5_heatForMostPots_45 rfl ?_
        refine gx_istore_n C (i := 1) [(1, _), (4, _), (0, _), (2, _), (3, _)] dX5_heatForMostPots_46 rfl (by decide) rfl ?_
        refine gx_iload (q := 1) C dX5_heatForMostPots_47 rfl ?_
        refine gx_istore_n C (i := 2) [(2, _), (1, _), (4, _), (0, _), (3, _)] dX5_heatForMostPots_49 rfl (by decide) rfl ?_
        refine gx_iinc C (q := 4) (v := nI (81 + (i + 1))) [(3, _), (2, _), (1, _), (4, _), (0, _)] dX5_heatForMostPots_50 rfl (nI_inc (81 + i)) (by decide) rfl ?_
        refine gx_goto (tgt := 25) C dX5_heatForMostPots_53 (by decide) ?_
        exact gx_back [4, 2, 1, 0] (ih (i + 1) (by omega) (by omega)) rfl (by rw [show cBest w (i + 1) = _ from if_neg c_42]; rfl)
  · skip
    refine gx_bipush (v := (-6)) C dX5_heatForMostPots_10 (by decide) ?_
    exact gx_iretR C rfl hr dX5_heatForMostPots_12 (congrArg Value.int (by exact ((if_pos c_7).trans (rfl)).symm))
